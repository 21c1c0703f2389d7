theorem sp_lay_fin {S S2 : sp_St} {t0 b r : Int32} {j n : Nat} {f g u w d : Nat → Int32} (h : sp_se S S2) (hf : sp_he f g) (hu : sp_he u w) (hd : ∀ x, x < 6 → d x = 0) : (sp_lay S t0 f u d n b r j).2.2.2.1 = sp_many S2 t0 g w n b r j ∧ (sp_lay S t0 f u d n b r j).2.2.2.2.1 = sp_ups S2 t0 g w n b r j ∧ (sp_lay S t0 f u d n b r j).2.2.2.2.2.1 = sp_lat S2 t0 g w n b r j ∧ ∀ x, x < 6 → (sp_lay S t0 f u d n b r j).2.2.2.2.2.2 x = sp_drp S2 t0 g w n b r j x := by
  have e := sp_lay_x (t0 := t0) (b := b) (r := r) (j := j) (n := n) (d := d) h hf hu
  rw [e]
  obtain ⟨a1, a2, a3, a4⟩ := sp_ly_d (s := S2) (t0 := t0) (b := b) (r := r) (j := j) n 0 (t0, g, w, 0, 0, 0, d) (t0, g, w, 0, 0, 0, fun _ => 0) rfl rfl rfl rfl rfl rfl
  exact ⟨a1, a2, a3, fun x hx => a4 x (hd x hx)⟩
/-- once one falls, not all come up -/
theorem sp_ly_lt {S : sp_St} {t0 b r : Int32} {j q k nn : Nat} {z : sp_LS} {m : Nat} (hk : k + (q + 1) = nn) (hn : nn < 2 ^ 31) (hz : z.2.2.2.1 = nI k) (hres : (sp_throw S 2000000000 z.1 z.2.1 z.2.2.1).1 = some m) : (sp_ly S t0 b r j (q + 1) k z).2.2.2.1 ≠ nI nn := by
  have e : (sp_l1 S t0 b r j k z).2.2.2.1 = nI k := by
    unfold sp_l1
    rw [hres]
    exact hz
  obtain ⟨a, ha, ea⟩ := sp_ly_m (s := S) (t0 := t0) (b := b) (r := r) (j := j) q (k + 1) (sp_l1 S t0 b r j k z) k e
  show (sp_ly S t0 b r j q (k + 1) (sp_l1 S t0 b r j k z)).2.2.2.1 ≠ nI nn
  rw [ea]
  exact fun h => by
    have := (nI_eq (by omega) (by omega)).mp h
    omega
section TDB
variable {G : px_G} {D : Nat} {K : tc_K} {MZ h : px_H} {r : tc_r} {Q : Option Value → px_H → Prop} {mn : tc_mn} {sc : tc_sc}
set_option maxRecDepth 4000 in
theorem c_Tr_throwTubes {n B : Nat} {kd vd : Nat → Int32} {ln : Nat → Nat} {cl : List sp_Cl} {nn : Nat} {bt : Int32} (hD : 8 ≤ D) (hR : tc_R mn sc MZ r) (hst : st_ok mn sc K 2 n B kd vd ln cl) (hB : B ≤ 20000) (hn30 : nn ≤ 30) (k : ∀ K2 (r2 : tc_r), tk [3, 4] K K2 → tc_R mn sc MZ r2 → K2.1 4 3 = sp_many (kd, vd, K.2.1 2 3, ln, n, cl) (K.1 2 9) (K.2.1 2 1) (K.2.1 2 2) nn bt 0 0 → K2.1 4 4 = sp_lat (kd, vd, K.2.1 2 3, ln, n, cl) (K.1 2 9) (K.2.1 2 1) (K.2.1 2 2) nn bt 0 0 → (∀ x, x < 6 → K2.2.1 4 2 x = sp_drp (kd, vd, K.2.1 2 3, ln, n, cl) (K.1 2 9) (K.2.1 2 1) (K.2.1 2 2) nn bt 0 0 x) → fl_ok nn (sp_ups (kd, vd, K.2.1 2 3, ln, n, cl) (K.1 2 9) (K.2.1 2 1) (K.2.1 2 2) nn bt 0 0) (K2.1 4 5) (sp_many (kd, vd, K.2.1 2 3, ln, n, cl) (K.1 2 9) (K.2.1 2 1) (K.2.1 2 2) nn bt 0 0) → Q none (HT K2 MZ r2)) : px_W G D 0 0 m_Tr_throwTubes 0 (px_ent 6 [.ref 23, .int (nI nn), .int bt]) [] (HT K MZ r) Q := by
  show px_W _ _ _ _ _ _ [some (.ref 23), some (.int (nI nn)), some (.int bt), none, none, none] [] _ _
  refine wp_aload_n d_Tr_throwTubes_0 rfl rfl rfl ?_
  refine gR_1 gf_Tr_19_2 d_Tr_throwTubes_1 ?_
  refine wp_aload_n d_Tr_throwTubes_4 rfl rfl rfl ?_
  refine gR_0 gf_Tr_15_2 d_Tr_throwTubes_5 ?_
  refine toS 3 ?_
  refine wp_callV (r := (R_1, T_1, 15)) (M' := m_Si_copyChain) (as := [_]) (D' := D - 1) (C1 := 0) (C2 := 0) (S1 := 0) (S2 := 0) d_Tr_throwTubes_8 rfl w_708 w_709 w_710 (ts_0 (by decide)) k_Si_copyChain (Nat.le_of_ble_eq_true rfl) rfl (Nat.le_of_ble_eq_true rfl) (by omega) rfl rfl ?_
  refine c_Si_copyChain (by omega) (by decide) (by decide) (by decide) hR hst.2.2.2.1 (fun j2 b2 w2 hcp => ?_)
  refine wp_aload_n d_Tr_throwTubes_11 rfl rfl rfl ?_
  refine gR_2 gf_Tr_9_2 d_Tr_throwTubes_12 ?_
  refine wp_iconst (v := 0) d_Tr_throwTubes_15 rfl ?_
  refine wp_callS (M' := m_Ar_fill_AII) (as := [_, _]) (D' := D - 1) (C1 := 0) (C2 := 0) (S1 := 0) (S2 := 0) d_Tr_throwTubes_16 w_716 w_717 k_Ar_fill_AII (Nat.le_of_ble_eq_true rfl) rfl (Nat.le_of_ble_eq_true rfl) (by omega) rfl rfl ?_
  refine c_Ar_fill_AII (by omega) ta_40 (by decide) ?_
  rw [ts_40]
  refine wp_aload_n d_Tr_throwTubes_19 rfl rfl rfl ?_
  refine wp_iconst (v := 0) d_Tr_throwTubes_20 rfl ?_
  refine pR_3 pgf_Tr_34_2 d_Tr_throwTubes_21 ?_
  refine wp_aload_n d_Tr_throwTubes_24 rfl rfl rfl ?_
  refine wp_iconst (v := 0) d_Tr_throwTubes_25 rfl ?_
  refine pR_4 pgf_Tr_38_2 d_Tr_throwTubes_26 ?_
  refine wp_aload_n d_Tr_throwTubes_29 rfl rfl rfl ?_
  refine wp_iconst (v := 0) d_Tr_throwTubes_30 rfl ?_
  refine pR_5 pgf_Tr_41_2 d_Tr_throwTubes_31 ?_
  refine wp_iconst (v := (nI 0)) d_Tr_throwTubes_34 rfl ?_
  refine wp_istore_n (ls' := [_, _, _, _, _, _]) d_Tr_throwTubes_35 rfl (by decide) rfl ?_
  have hst3 := st_ok.cp (s := 3) hst hcp
  obtain ⟨q1, q2, q3⟩ := hcp.se (kd := kd) (vd := vd) (n := n) (cl := cl) (fun p hp => (hst.1.2.2 p hp).1)
  obtain ⟨w1, w2_, w3, w4, w5, w6⟩ := hst3
  have e3 := ks_s K 3 j2 b2 w2 (K.2.2.2.1 2)
  rw [e3.1, e3.2.1, e3.2.2.1] at w1
  rw [e3.2.1] at w2_ w3
  rw [e3.2.2.2] at w5
  refine l_Tr_throwTubes_36 (K := K) (rows := b2 3) (t0 := K.1 2 9) (B := B) hD hn30 hB w6 w3 (fun p hp => ?_) rfl nn 0 (K.1 2 9, b2 1, b2 2, 0, 0, 0, sp_fil (K.2.1 4 2) 0 6) _ r (Nat.zero_add nn) ((((((tk.rf (S := [3, 4]) (K := K)).s 3 (by decide) j2 b2 w2 (K.2.2.2.1 2)).b 4 (by decide) _).j 4 (by decide) _).j 4 (by decide) _).j 4 (by decide) _) hR w1 w2_ rfl w5 (hcp.1 9 (by decide) (by decide)) rfl rfl rfl fl_0 rfl rfl ?_
  · obtain ⟨a, b0, pm, k0, v0, c0, d0, e0, f0⟩ := w1.2.2 p hp
    exact ⟨a, v0, by have := (hR.2.1 pm k0 (ln p) v0 d0).2.2.1; omega, f0⟩
  · intro K2 r2 t1 t2 m1 m2 m3 m4
    obtain ⟨g1, g2, g3, g4⟩ := sp_lay_fin (t0 := K.1 2 9) (b := bt) (r := 0) (j := 0) (n := nn) (d := sp_fil (K.2.1 4 2) 0 6) q1 q2 q3 (fun x hx => if_pos hx)
    refine k K2 r2 t1 t2 (m1.trans g1) (m2.trans g3) (fun x hx => (congrFun m3 x).trans (g4 x hx)) ?_
    rw [← g1, ← g2]
    exact m4
set_option maxRecDepth 8000 in
set_option maxHeartbeats 1000000 in
theorem l_Tr_noneFalls_14 {n B : Nat} {kd vd : Nat → Int32} {ln : Nat → Nat} {cl : List sp_Cl} {nn jj : Nat} {bt rr t0 : Int32} {rows : Nat → Int32} (hD : 8 ≤ D) (hn30 : nn ≤ 30) (hj : jj ≤ 60) (hB : B ≤ 20000) (hgd : tc_gd cl) (hrows : ∀ i, i < 24 → ∃ x, x ≤ 9 ∧ rows i = nI x) (hvd1 : ∀ p, p < n → ln p < 6 ∧ ∃ vv, vv ≤ 9 ∧ vd (ln p) = nI vv) : ∀ (q k : Nat) (z : sp_LS) (K1 : tc_K) (r1 : tc_r), k + q = nn → tk [3] K K1 → tc_R mn sc MZ r1 → si_w mn n (K1.1 3) (K1.2.1 3) (K1.2.2.1 3) kd vd ln → si_h (K1.2.1 3) (B + 6 * k) → K1.2.1 3 3 = rows → sc.1 (K1.2.2.2.1 3) = some cl → K1.1 3 9 = z.1 → K1.2.1 3 1 = z.2.1 → K1.2.1 3 2 = z.2.2.1 → z.2.2.2.1 = nI k → ((sp_ly (kd, vd, rows, ln, n, cl) t0 bt rr jj q k z).2.2.2.1 = nI nn → ∀ K2 (r2 : tc_r), tk [3] K K2 → tc_R mn sc MZ r2 → Q (some (.int 1)) (HT K2 MZ r2)) → ((sp_ly (kd, vd, rows, ln, n, cl) t0 bt rr jj q k z).2.2.2.1 ≠ nI nn → ∀ K2 (r2 : tc_r), tk [3] K K2 → tc_R mn sc MZ r2 → Q (some (.int 0)) (HT K2 MZ r2)) → px_W G D 0 0 m_Tr_noneFalls 14 [some (.ref 23), some (.int (nI nn)), some (.int bt), some (.int (nI jj)), some (.int rr), some (.int (nI (k + 1)))] [] (HT K1 MZ r1) Q := by
  intro q
  induction q with
  | zero =>
    intro k z K1 r1 hkq hk1 hR1 hw1 hh1 hr1 hsc1 h19 hb1 hb2 hmany kt kf
    refine wp_iload d_Tr_noneFalls_14 rfl ?_
    refine wp_iload_n d_Tr_noneFalls_16 rfl rfl ?_
    refine wp_icmp_gt (t := 64) d_Tr_noneFalls_17 (by decide) (fun c_17 => ?_) (fun c_17 => absurd (nI_lt (by omega) (by omega)) c_17)
    refine wp_iconst (v := 1) d_Tr_noneFalls_64 rfl ?_
    refine wp_ireturn d_Tr_noneFalls_65 rfl rfl ?_
    exact kt (by rw [show nn = k from by omega]; exact hmany) K1 r1 hk1 hR1
  | succ q ih =>
    intro k z K1 r1 hkq hk1 hR1 hw1 hh1 hr1 hsc1 h19 hb1 hb2 hmany kt kf
    refine toS 3 ?_
    refine wp_iload d_Tr_noneFalls_14 rfl ?_
    refine wp_iload_n d_Tr_noneFalls_16 rfl rfl ?_
    refine wp_icmp_gt (t := 64) d_Tr_noneFalls_17 (by decide) (fun c_17 => absurd c_17 (Int32.not_lt.mpr (nI_le (by omega) (by omega)))) (fun c_17 => ?_)
    refine wp_aload_n d_Tr_noneFalls_20 rfl rfl rfl ?_
    refine gR_1 gf_Tr_19_2 d_Tr_noneFalls_21 ?_
    refine wp_iload_n d_Tr_noneFalls_24 rfl rfl ?_
    refine wp_callV (r := (R_1, T_1, 15)) (M' := m_Si_throwTube) (as := [_]) (D' := D - 1) (C1 := 0) (C2 := 0) (S1 := 0) (S2 := 0) d_Tr_noneFalls_25 rfl w_719 w_674 w_675 (ts_0 (by decide)) k_Si_throwTube (Nat.le_of_ble_eq_true rfl) rfl (Nat.le_of_ble_eq_true rfl) (by omega) rfl rfl ?_
    refine c_Si_throwTube (by omega) (by decide) hsc1 hw1 (by omega) hR1 hh1 ?_
    intro j2 b2 r2 hR2 hm2 h92 e1 e2 hh2
    rw [hr1, h19, hb1, hb2] at e1 e2 ⊢
    have hly : sp_ly (kd, vd, rows, ln, n, cl) t0 bt rr jj (q + 1) k z = sp_ly (kd, vd, rows, ln, n, cl) t0 bt rr jj q (k + 1) (sp_l1 (kd, vd, rows, ln, n, cl) t0 bt rr jj k z) := rfl
    cases hres : (sp_throw (kd, vd, rows, ln, n, cl) 2000000000 z.1 z.2.1 z.2.2.1).1 with
    | none =>
      intro g10 g11
      have hz1 : sp_l1 (kd, vd, rows, ln, n, cl) t0 bt rr jj k z = (z.1 + sp_bt bt rr jj k, (sp_throw (kd, vd, rows, ln, n, cl) 2000000000 z.1 z.2.1 z.2.2.1).2.2.1, (sp_throw (kd, vd, rows, ln, n, cl) 2000000000 z.1 z.2.1 z.2.2.1).2.2.2, z.2.2.2.1 + 1, z.2.2.2.2.1 ||| (1 <<< (nI k &&& 31)), (if z.2.2.2.2.2.1 < (sp_throw (kd, vd, rows, ln, n, cl) 2000000000 z.1 z.2.1 z.2.2.1).2.1 - t0 then (sp_throw (kd, vd, rows, ln, n, cl) 2000000000 z.1 z.2.1 z.2.2.1).2.1 - t0 else z.2.2.2.2.2.1), z.2.2.2.2.2.2) := by
        unfold sp_l1
        rw [hres]
      obtain ⟨x, hx, ex⟩ := sp_up_b (t := z.1) (held := z.2.1) (free := z.2.2.1) (B := B + 6 * k) ⟨hgd, hw1.1, fun p hp => hvd1 p hp, hrows, by rw [← hb1]; exact hh1⟩ (by omega) hres
      have htk : (sp_throw (kd, vd, rows, ln, n, cl) 2000000000 z.1 z.2.1 z.2.2.1).2.1 - z.1 = nI x := ex
      refine wp_if_ge (t := 33) d_Tr_noneFalls_28 (by decide) (fun c_28 => ?_) (fun c_28 => absurd (by rw [htk]; exact nI_pos' (by omega)) c_28)
      refine wp_iload_n d_Tr_noneFalls_33 rfl rfl ?_
      refine wp_if_le (t := 58) d_Tr_noneFalls_34 (by decide) (fun c_34 => ?_) (fun c_34 => ?_)
      · skip
        refine wp_iinc (v := _ + 1) (ls' := [_, _, _, _, _, _]) d_Tr_noneFalls_58 (by decide) rfl rfl rfl ?_
        refine wp_goto (t := 14) d_Tr_noneFalls_61 (by decide) ?_
        first
          | (have hmod : (k + 1) % jj = 0 := by
               by_cases z0 : (k + 1) % jj = 0
               · exact z0
               · exact absurd c_41 (nI_ne0 (by omega) (by omega))
             rw [show nI (k + 1) + 1 = nI (k + 1 + 1) from nI_1 (k + 1)]
             have hbt : sp_bt bt rr jj k = bt + rr := if_pos ⟨by
               have c := Int32.not_le.mp c_34
               exact (nI_ltI (a := 0) (by decide) (by omega)).mp c, hmod⟩
             refine ih (k + 1) (z.1 + sp_bt bt rr jj k, (sp_throw (kd, vd, rows, ln, n, cl) 2000000000 z.1 z.2.1 z.2.2.1).2.2.1, (sp_throw (kd, vd, rows, ln, n, cl) 2000000000 z.1 z.2.1 z.2.2.1).2.2.2, z.2.2.2.1 + 1, z.2.2.2.2.1 ||| (1 <<< (nI k &&& 31)), (if z.2.2.2.2.2.1 < (sp_throw (kd, vd, rows, ln, n, cl) 2000000000 z.1 z.2.1 z.2.2.1).2.1 - t0 then (sp_throw (kd, vd, rows, ln, n, cl) 2000000000 z.1 z.2.1 z.2.2.1).2.1 - t0 else z.2.2.2.2.2.1), z.2.2.2.2.2.2) _ r2 (by omega) (hk1.s 3 (by decide) _ _ _ _) hR2 (hw1.ms (hm2.i 9 (by decide) _) (by decide) (by decide)) (by rw [show B + 6 * (k + 1) = B + 6 * k + 6 from by omega]; exact hh2) ((hm2.2 3 (by decide)).trans hr1) hsc1 (by rw [hbt]; show j2 9 + rr = z.1 + (bt + rr); rw [h92, h19, Int32.add_assoc]) e1 e2 (show z.2.2.2.1 + 1 = nI (k + 1) from by rw [hmany]; exact nI_1 k) (fun h K2 r3 a1 a2 => kt ?_ K2 r3 a1 a2) (fun h K2 r3 a1 a2 => kf ?_ K2 r3 a1 a2)
             · rw [hly, hz1]; exact h
             · rw [hly, hz1]; exact h)
          | (have hno : ¬ (0 < jj ∧ (k + 1) % jj = 0) := by
               first
                 | (intro q0
                    exact absurd (by rw [q0.2]; rfl) c_41)
                 | (intro q0
                    exact absurd c_34 (Int32.not_le.mpr ((nI_ltI (a := 0) (by decide) (by omega)).mpr q0.1)))
             rw [show nI (k + 1) + 1 = nI (k + 1 + 1) from nI_1 (k + 1)]
             have hbt : sp_bt bt rr jj k = bt := if_neg hno
             refine ih (k + 1) (z.1 + sp_bt bt rr jj k, (sp_throw (kd, vd, rows, ln, n, cl) 2000000000 z.1 z.2.1 z.2.2.1).2.2.1, (sp_throw (kd, vd, rows, ln, n, cl) 2000000000 z.1 z.2.1 z.2.2.1).2.2.2, z.2.2.2.1 + 1, z.2.2.2.2.1 ||| (1 <<< (nI k &&& 31)), (if z.2.2.2.2.2.1 < (sp_throw (kd, vd, rows, ln, n, cl) 2000000000 z.1 z.2.1 z.2.2.1).2.1 - t0 then (sp_throw (kd, vd, rows, ln, n, cl) 2000000000 z.1 z.2.1 z.2.2.1).2.1 - t0 else z.2.2.2.2.2.1), z.2.2.2.2.2.2) _ r2 (by omega) (hk1.s 3 (by decide) _ _ _ _) hR2 (hw1.ms hm2 (by decide) (by decide)) (by rw [show B + 6 * (k + 1) = B + 6 * k + 6 from by omega]; exact hh2) ((hm2.2 3 (by decide)).trans hr1) hsc1 (by rw [hbt]; show j2 9 = z.1 + bt; rw [h92, h19]) e1 e2 (show z.2.2.2.1 + 1 = nI (k + 1) from by rw [hmany]; exact nI_1 k) (fun h K2 r3 a1 a2 => kt ?_ K2 r3 a1 a2) (fun h K2 r3 a1 a2 => kf ?_ K2 r3 a1 a2)
             · rw [hly, hz1]; exact h
             · rw [hly, hz1]; exact h)
      · skip
        refine wp_iload d_Tr_noneFalls_37 rfl ?_
        refine wp_iload_n d_Tr_noneFalls_39 rfl rfl ?_
        refine wp_irem d_Tr_noneFalls_40 (by have c := Int32.not_le.mp c_34; have c2 := (nI_ltI (a := 0) (by decide) (by omega)).mp c; exact nI_ne0 c2 (by omega)) ?_
        have hjj : 0 < jj := (nI_ltI (a := 0) (by decide) (by omega)).mp (Int32.not_le.mp c_34)
        have hml : (k + 1) % jj < jj := Nat.mod_lt _ hjj
        rw [show nI (k + 1) - nI (k + 1) / nI jj * nI jj = nI ((k + 1) % jj) from pk_rem (by omega) (by omega) (by omega)]
        refine wp_if_ne (t := 58) d_Tr_noneFalls_41 (by decide) (fun c_41 => ?_) (fun c_41 => ?_)
        · skip
          refine wp_iinc (v := _ + 1) (ls' := [_, _, _, _, _, _]) d_Tr_noneFalls_58 (by decide) rfl rfl rfl ?_
          refine wp_goto (t := 14) d_Tr_noneFalls_61 (by decide) ?_
          first
            | (have hmod : (k + 1) % jj = 0 := by
                 by_cases z0 : (k + 1) % jj = 0
                 · exact z0
                 · exact absurd c_41 (nI_ne0 (by omega) (by omega))
               rw [show nI (k + 1) + 1 = nI (k + 1 + 1) from nI_1 (k + 1)]
               have hbt : sp_bt bt rr jj k = bt + rr := if_pos ⟨by
                 have c := Int32.not_le.mp c_34
                 exact (nI_ltI (a := 0) (by decide) (by omega)).mp c, hmod⟩
               refine ih (k + 1) (z.1 + sp_bt bt rr jj k, (sp_throw (kd, vd, rows, ln, n, cl) 2000000000 z.1 z.2.1 z.2.2.1).2.2.1, (sp_throw (kd, vd, rows, ln, n, cl) 2000000000 z.1 z.2.1 z.2.2.1).2.2.2, z.2.2.2.1 + 1, z.2.2.2.2.1 ||| (1 <<< (nI k &&& 31)), (if z.2.2.2.2.2.1 < (sp_throw (kd, vd, rows, ln, n, cl) 2000000000 z.1 z.2.1 z.2.2.1).2.1 - t0 then (sp_throw (kd, vd, rows, ln, n, cl) 2000000000 z.1 z.2.1 z.2.2.1).2.1 - t0 else z.2.2.2.2.2.1), z.2.2.2.2.2.2) _ r2 (by omega) (hk1.s 3 (by decide) _ _ _ _) hR2 (hw1.ms (hm2.i 9 (by decide) _) (by decide) (by decide)) (by rw [show B + 6 * (k + 1) = B + 6 * k + 6 from by omega]; exact hh2) ((hm2.2 3 (by decide)).trans hr1) hsc1 (by rw [hbt]; show j2 9 + rr = z.1 + (bt + rr); rw [h92, h19, Int32.add_assoc]) e1 e2 (show z.2.2.2.1 + 1 = nI (k + 1) from by rw [hmany]; exact nI_1 k) (fun h K2 r3 a1 a2 => kt ?_ K2 r3 a1 a2) (fun h K2 r3 a1 a2 => kf ?_ K2 r3 a1 a2)
               · rw [hly, hz1]; exact h
               · rw [hly, hz1]; exact h)
            | (have hno : ¬ (0 < jj ∧ (k + 1) % jj = 0) := by
                 first
                   | (intro q0
                      exact absurd (by rw [q0.2]; rfl) c_41)
                   | (intro q0
                      exact absurd c_34 (Int32.not_le.mpr ((nI_ltI (a := 0) (by decide) (by omega)).mpr q0.1)))
               rw [show nI (k + 1) + 1 = nI (k + 1 + 1) from nI_1 (k + 1)]
               have hbt : sp_bt bt rr jj k = bt := if_neg hno
               refine ih (k + 1) (z.1 + sp_bt bt rr jj k, (sp_throw (kd, vd, rows, ln, n, cl) 2000000000 z.1 z.2.1 z.2.2.1).2.2.1, (sp_throw (kd, vd, rows, ln, n, cl) 2000000000 z.1 z.2.1 z.2.2.1).2.2.2, z.2.2.2.1 + 1, z.2.2.2.2.1 ||| (1 <<< (nI k &&& 31)), (if z.2.2.2.2.2.1 < (sp_throw (kd, vd, rows, ln, n, cl) 2000000000 z.1 z.2.1 z.2.2.1).2.1 - t0 then (sp_throw (kd, vd, rows, ln, n, cl) 2000000000 z.1 z.2.1 z.2.2.1).2.1 - t0 else z.2.2.2.2.2.1), z.2.2.2.2.2.2) _ r2 (by omega) (hk1.s 3 (by decide) _ _ _ _) hR2 (hw1.ms hm2 (by decide) (by decide)) (by rw [show B + 6 * (k + 1) = B + 6 * k + 6 from by omega]; exact hh2) ((hm2.2 3 (by decide)).trans hr1) hsc1 (by rw [hbt]; show j2 9 = z.1 + bt; rw [h92, h19]) e1 e2 (show z.2.2.2.1 + 1 = nI (k + 1) from by rw [hmany]; exact nI_1 k) (fun h K2 r3 a1 a2 => kt ?_ K2 r3 a1 a2) (fun h K2 r3 a1 a2 => kf ?_ K2 r3 a1 a2)
               · rw [hly, hz1]; exact h
               · rw [hly, hz1]; exact h)
        · skip
          refine wp_aload_n d_Tr_noneFalls_44 rfl rfl rfl ?_
          refine gR_1 gf_Tr_19_2 d_Tr_noneFalls_45 ?_
          refine wp_dup d_Tr_noneFalls_48 rfl ?_
          refine gS_9 (by decide) gf_Tr_44_1 d_Tr_noneFalls_49 ?_
          refine wp_iload d_Tr_noneFalls_52 rfl ?_
          refine wp_iadd d_Tr_noneFalls_54 ?_
          refine pS_9 (by decide) pgf_Tr_44_1 d_Tr_noneFalls_55 ?_
          refine wp_iinc (v := _ + 1) (ls' := [_, _, _, _, _, _]) d_Tr_noneFalls_58 (by decide) rfl rfl rfl ?_
          refine wp_goto (t := 14) d_Tr_noneFalls_61 (by decide) ?_
          first
            | (have hmod : (k + 1) % jj = 0 := by
                 by_cases z0 : (k + 1) % jj = 0
                 · exact z0
                 · exact absurd c_41 (nI_ne0 (by omega) (by omega))
               rw [show nI (k + 1) + 1 = nI (k + 1 + 1) from nI_1 (k + 1)]
               have hbt : sp_bt bt rr jj k = bt + rr := if_pos ⟨by
                 have c := Int32.not_le.mp c_34
                 exact (nI_ltI (a := 0) (by decide) (by omega)).mp c, hmod⟩
               refine ih (k + 1) (z.1 + sp_bt bt rr jj k, (sp_throw (kd, vd, rows, ln, n, cl) 2000000000 z.1 z.2.1 z.2.2.1).2.2.1, (sp_throw (kd, vd, rows, ln, n, cl) 2000000000 z.1 z.2.1 z.2.2.1).2.2.2, z.2.2.2.1 + 1, z.2.2.2.2.1 ||| (1 <<< (nI k &&& 31)), (if z.2.2.2.2.2.1 < (sp_throw (kd, vd, rows, ln, n, cl) 2000000000 z.1 z.2.1 z.2.2.1).2.1 - t0 then (sp_throw (kd, vd, rows, ln, n, cl) 2000000000 z.1 z.2.1 z.2.2.1).2.1 - t0 else z.2.2.2.2.2.1), z.2.2.2.2.2.2) _ r2 (by omega) (hk1.s 3 (by decide) _ _ _ _) hR2 (hw1.ms (hm2.i 9 (by decide) _) (by decide) (by decide)) (by rw [show B + 6 * (k + 1) = B + 6 * k + 6 from by omega]; exact hh2) ((hm2.2 3 (by decide)).trans hr1) hsc1 (by rw [hbt]; show j2 9 + rr = z.1 + (bt + rr); rw [h92, h19, Int32.add_assoc]) e1 e2 (show z.2.2.2.1 + 1 = nI (k + 1) from by rw [hmany]; exact nI_1 k) (fun h K2 r3 a1 a2 => kt ?_ K2 r3 a1 a2) (fun h K2 r3 a1 a2 => kf ?_ K2 r3 a1 a2)
               · rw [hly, hz1]; exact h
               · rw [hly, hz1]; exact h)
            | (have hno : ¬ (0 < jj ∧ (k + 1) % jj = 0) := by
                 first
                   | (intro q0
                      exact absurd (by rw [q0.2]; rfl) c_41)
                   | (intro q0
                      exact absurd c_34 (Int32.not_le.mpr ((nI_ltI (a := 0) (by decide) (by omega)).mpr q0.1)))
               rw [show nI (k + 1) + 1 = nI (k + 1 + 1) from nI_1 (k + 1)]
               have hbt : sp_bt bt rr jj k = bt := if_neg hno
               refine ih (k + 1) (z.1 + sp_bt bt rr jj k, (sp_throw (kd, vd, rows, ln, n, cl) 2000000000 z.1 z.2.1 z.2.2.1).2.2.1, (sp_throw (kd, vd, rows, ln, n, cl) 2000000000 z.1 z.2.1 z.2.2.1).2.2.2, z.2.2.2.1 + 1, z.2.2.2.2.1 ||| (1 <<< (nI k &&& 31)), (if z.2.2.2.2.2.1 < (sp_throw (kd, vd, rows, ln, n, cl) 2000000000 z.1 z.2.1 z.2.2.1).2.1 - t0 then (sp_throw (kd, vd, rows, ln, n, cl) 2000000000 z.1 z.2.1 z.2.2.1).2.1 - t0 else z.2.2.2.2.2.1), z.2.2.2.2.2.2) _ r2 (by omega) (hk1.s 3 (by decide) _ _ _ _) hR2 (hw1.ms hm2 (by decide) (by decide)) (by rw [show B + 6 * (k + 1) = B + 6 * k + 6 from by omega]; exact hh2) ((hm2.2 3 (by decide)).trans hr1) hsc1 (by rw [hbt]; show j2 9 = z.1 + bt; rw [h92, h19]) e1 e2 (show z.2.2.2.1 + 1 = nI (k + 1) from by rw [hmany]; exact nI_1 k) (fun h K2 r3 a1 a2 => kt ?_ K2 r3 a1 a2) (fun h K2 r3 a1 a2 => kf ?_ K2 r3 a1 a2)
               · rw [hly, hz1]; exact h
               · rw [hly, hz1]; exact h)
    | some m =>
      intro hm6 g10 g11
      refine wp_if_ge (t := 33) d_Tr_noneFalls_28 (by decide) (fun c_28 => absurd (sub10 m hm6).1 (Int32.not_lt.mpr c_28)) (fun c_28 => ?_)
      refine wp_iconst (v := 0) d_Tr_noneFalls_31 rfl ?_
      refine wp_ireturn d_Tr_noneFalls_32 rfl rfl ?_
      exact kf (sp_ly_lt (by omega) (by omega) hmany hres) _ r2 (hk1.s 3 (by decide) _ _ _ _) hR2
set_option maxRecDepth 4000 in
theorem c_Tr_noneFalls {n B : Nat} {kd vd : Nat → Int32} {ln : Nat → Nat} {cl : List sp_Cl} {nn jj : Nat} {bt rr : Int32} (hD : 8 ≤ D) (hR : tc_R mn sc MZ r) (hst : st_ok mn sc K 2 n B kd vd ln cl) (hB : B ≤ 20000) (hn30 : nn ≤ 30) (hj : jj ≤ 60) (kt : (sp_many (kd, vd, K.2.1 2 3, ln, n, cl) (K.1 2 9) (K.2.1 2 1) (K.2.1 2 2) nn bt rr jj = nI nn → ∀ K2 (r2 : tc_r), tk [3] K K2 → tc_R mn sc MZ r2 → Q (some (.int 1)) (HT K2 MZ r2))) (kf : (sp_many (kd, vd, K.2.1 2 3, ln, n, cl) (K.1 2 9) (K.2.1 2 1) (K.2.1 2 2) nn bt rr jj ≠ nI nn → ∀ K2 (r2 : tc_r), tk [3] K K2 → tc_R mn sc MZ r2 → Q (some (.int 0)) (HT K2 MZ r2))) : px_W G D 0 0 m_Tr_noneFalls 0 (px_ent 6 [.ref 23, .int (nI nn), .int bt, .int (nI jj), .int rr]) [] (HT K MZ r) Q := by
  show px_W _ _ _ _ _ _ [some (.ref 23), some (.int (nI nn)), some (.int bt), some (.int (nI jj)), some (.int rr), none] [] _ _
  refine wp_aload_n d_Tr_noneFalls_0 rfl rfl rfl ?_
  refine gR_1 gf_Tr_19_2 d_Tr_noneFalls_1 ?_
  refine wp_aload_n d_Tr_noneFalls_4 rfl rfl rfl ?_
  refine gR_0 gf_Tr_15_2 d_Tr_noneFalls_5 ?_
  refine toS 3 ?_
  refine wp_callV (r := (R_1, T_1, 15)) (M' := m_Si_copyChain) (as := [_]) (D' := D - 1) (C1 := 0) (C2 := 0) (S1 := 0) (S2 := 0) d_Tr_noneFalls_8 rfl w_708 w_709 w_710 (ts_0 (by decide)) k_Si_copyChain (Nat.le_of_ble_eq_true rfl) rfl (Nat.le_of_ble_eq_true rfl) (by omega) rfl rfl ?_
  refine c_Si_copyChain (by omega) (by decide) (by decide) (by decide) hR hst.2.2.2.1 (fun j2 b2 w2 hcp => ?_)
  refine wp_iconst (v := (nI (0 + 1))) d_Tr_noneFalls_11 rfl ?_
  refine wp_istore (ls' := [_, _, _, _, _, _]) d_Tr_noneFalls_12 (by decide) rfl ?_
  have hst3 := st_ok.cp (s := 3) hst hcp
  obtain ⟨q1, q2, q3⟩ := hcp.se (kd := kd) (vd := vd) (n := n) (cl := cl) (fun p hp => (hst.1.2.2 p hp).1)
  obtain ⟨w1, w2_, w3, w4, w5, w6⟩ := hst3
  have e3 := ks_s K 3 j2 b2 w2 (K.2.2.2.1 2)
  rw [e3.1, e3.2.1, e3.2.2.1] at w1
  rw [e3.2.1] at w2_ w3
  rw [e3.2.2.2] at w5
  obtain ⟨g1, g2, g3, g4⟩ := sp_lay_fin (t0 := K.1 2 9) (b := bt) (r := rr) (j := jj) (n := nn) (d := fun _ => 0) q1 q2 q3 (fun x hx => rfl)
  refine l_Tr_noneFalls_14 (K := K) (rows := b2 3) (t0 := K.1 2 9) (B := B) hD hn30 hj hB w6 w3 (fun p hp => ?_) nn 0 (K.1 2 9, b2 1, b2 2, 0, 0, 0, fun _ => 0) _ r (Nat.zero_add nn) ((tk.rf (S := [3]) (K := K)).s 3 (by decide) j2 b2 w2 (K.2.2.2.1 2)) hR w1 w2_ rfl w5 (hcp.1 9 (by decide) (by decide)) rfl rfl rfl (fun h K2 r2 => kt ?_ K2 r2) (fun h K2 r2 => kf ?_ K2 r2)
  · obtain ⟨a, b0, pm, k0, v0, c0, d0, e0, f0⟩ := w1.2.2 p hp
    exact ⟨a, v0, by have := (hR.2.1 pm k0 (ln p) v0 d0).2.2.1; omega, f0⟩
  · rw [← g1]; exact h
  · rw [← g1]; exact h
end TDB
