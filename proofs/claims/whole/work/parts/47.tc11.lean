def sp_fil (f : Nat → Int32) (v : Int32) (i : Nat) : Nat → Int32 := fun q => if q < i then v else f q
theorem sp_fil_s (f : Nat → Int32) (v : Int32) (i : Nat) : upd (sp_fil f v i) i v = sp_fil f v (i + 1) := by
  funext q
  show (if q = i then v else if q < i then v else f q) = if q < i + 1 then v else f q
  by_cases h : q = i
  · rw [if_pos h, if_pos (by omega)]
  · rw [if_neg h]
    by_cases h2 : q < i
    · rw [if_pos h2, if_pos (by omega)]
    · rw [if_neg h2, if_neg (by omega)]
theorem sp_fil_0 (f : Nat → Int32) (v : Int32) : sp_fil f v 0 = f := by
  funext q
  exact if_neg (by omega)
/-- a site in order -/
def st_ok (mn : tc_mn) (sc : tc_sc) (K : tc_K) (s n B : Nat) (kd vd : Nat → Int32) (ln : Nat → Nat) (cl : List sp_Cl) : Prop := si_w mn n (K.1 s) (K.2.1 s) (K.2.2.1 s) kd vd ln ∧ si_h (K.2.1 s) B ∧ (∀ i, i < 24 → ∃ x, x ≤ 9 ∧ K.2.1 s 3 i = nI x) ∧ mn_ok mn (K.2.2.1 s) ∧ sc.1 (K.2.2.2.1 s) = some cl ∧ tc_gd cl
theorem st_ok.wb {mn : tc_mn} {sc : tc_sc} {MZ : px_H} {r : tc_r} {K : tc_K} {s n B : Nat} {kd vd : Nat → Int32} {ln : Nat → Nat} {cl : List sp_Cl} (h : st_ok mn sc K s n B kd vd ln cl) (hR : tc_R mn sc MZ r) : sp_wb (kd, vd, K.2.1 s 3, ln, n, cl) (K.2.1 s 1) B := by
  obtain ⟨⟨h1, h2, h3⟩, h4, h5, h6, h7, h8⟩ := h
  refine ⟨h8, h1, fun p hp => ?_, h5, h4⟩
  obtain ⟨a, b, pm, k, v, c, d, e, f⟩ := h3 p hp
  exact ⟨a, v, by have := (hR.2.1 pm k (ln p) v d).2.2.1; omega, f⟩
theorem st_ok.cp {mn : tc_mn} {sc : tc_sc} {K : tc_K} {s o n B : Nat} {kd vd : Nat → Int32} {ln : Nat → Nat} {cl : List sp_Cl} {j j2 : Nat → Int32} {b b2 : Nat → Nat → Int32} {w2 : Nat → Option Nat} (h : st_ok mn sc K o n B kd vd ln cl) (hc : si_cp (K.1 o) j j2 (K.2.1 o) b b2 (K.2.2.1 o) w2) : st_ok mn sc (ks K s j2 b2 w2 (K.2.2.2.1 o)) s n B kd vd ln cl := by
  obtain ⟨⟨h1, h2, h3⟩, h4, h5, h6, h7, h8⟩ := h
  obtain ⟨c1, c2, c3, c4, c5, c6, c7⟩ := hc
  unfold st_ok
  rw [(ks_s K s j2 b2 w2 (K.2.2.2.1 o)).1, (ks_s K s j2 b2 w2 (K.2.2.2.1 o)).2.1, (ks_s K s j2 b2 w2 (K.2.2.2.1 o)).2.2.1, (ks_s K s j2 b2 w2 (K.2.2.2.1 o)).2.2.2]
  refine ⟨⟨h1, (c1 8 (by decide) (by decide)).trans h2, fun p hp => ?_⟩, fun m hm => ?_, fun i hi => ?_, fun i hi y hy => ?_, h7, h8⟩
  · obtain ⟨a, e, pm, k, v, f, g⟩ := h3 p hp
    exact ⟨a, ((c3 p (by omega)).2.2).trans e, pm, k, v, (c7 _ a).trans f, g⟩
  · rw [(c3 m hm).1]; exact h4 m hm
  · rw [c4 i hi]; exact h5 i hi
  · exact h6 i hi y ((c7 i hi).symm.trans hy)
theorem si_cp.se {j0 j j2 : Nat → Int32} {b0 b b2 : Nat → Nat → Int32} {w0 w2 : Nat → Option Nat} {kd vd : Nat → Int32} {ln : Nat → Nat} {n : Nat} {cl : List sp_Cl} (hc : si_cp j0 j j2 b0 b b2 w0 w2) (hl : ∀ p, p < n → ln p < 6) : sp_se (kd, vd, b2 3, ln, n, cl) (kd, vd, b0 3, ln, n, cl) ∧ sp_he (b2 1) (b0 1) ∧ sp_he (b2 2) (b0 2) := ⟨⟨fun _ _ => ⟨rfl, rfl⟩, fun i hi => hc.2.2.2.1 i hi, rfl, fun p hp => ⟨rfl, hl p hp⟩⟩, fun m hm => (hc.2.2.1 m hm).1, fun m hm => (hc.2.2.1 m hm).2.1⟩
theorem sp_bt_0 (b r : Int32) (k : Nat) : sp_bt b r 0 k = b := if_neg (fun h => by omega)
theorem sub3 (a b c : Int32) : (a - b) + (c - a) = c - b := by
  rw [Int32.sub_eq_add_neg, Int32.sub_eq_add_neg, Int32.sub_eq_add_neg, Int32.add_comm a, Int32.add_assoc, ← Int32.add_assoc a c, Int32.add_comm a c, Int32.add_assoc c, Int32.add_right_neg, Int32.add_zero, Int32.add_comm]
theorem sub10 : ∀ m, m < 6 → (-10 : Int32) - nI m < 0 ∧ (-10 : Int32) - (-10 - nI m) = nI m := by decide
section TDA
variable {G : px_G} {D : Nat} {K : tc_K} {MZ h : px_H} {r : tc_r} {Q : Option Value → px_H → Prop} {mn : tc_mn} {sc : tc_sc}
set_option maxRecDepth 4000 in
theorem l_Ar_fill_AII_5 {p n : Nat} {v : Int32} {f : Nat → Int32} (he : h[p]? = some (iA n f)) (hn : n < 2 ^ 31) (k : Q none (h.set p (iA n (sp_fil f v n)))) : ∀ (d i : Nat), i + d = n → px_W G D 0 0 m_Ar_fill_AII 5 [some (.ref p), some (.int v), some (.int (nI i)), some (.int (nI n))] [] (h.set p (iA n (sp_fil f v i))) Q := by
  intro d
  induction d with
  | zero =>
    intro i hid
    refine wp_iload_n d_Ar_fill_AII_5 rfl rfl ?_
    refine wp_iload_n d_Ar_fill_AII_6 rfl rfl ?_
    refine wp_icmp_ge (t := 20) d_Ar_fill_AII_7 (by decide) (fun c_7 => ?_) (fun c_7 => absurd (nI_le (by omega) (by omega)) c_7)
    refine wp_return d_Ar_fill_AII_20 rfl ?_
    rw [show i = n from by omega]
    exact k
  | succ d ih =>
    intro i hid
    refine wp_iload_n d_Ar_fill_AII_5 rfl rfl ?_
    refine wp_iload_n d_Ar_fill_AII_6 rfl rfl ?_
    refine wp_icmp_ge (t := 20) d_Ar_fill_AII_7 (by decide) (fun c_7 => absurd c_7 (nI_ge (by omega) (by omega))) (fun c_7 => ?_)
    refine wp_aload_n d_Ar_fill_AII_10 rfl rfl rfl ?_
    refine wp_iload_n d_Ar_fill_AII_11 rfl rfl ?_
    refine wp_iload_n d_Ar_fill_AII_12 rfl rfl ?_
    refine wp_iast d_Ar_fill_AII_13 (px_set_at he) (vp_in_nI (by omega) (by omega)) px_ss ?_
    refine wp_iinc (v := _ + 1) (ls' := [_, _, _, _]) d_Ar_fill_AII_14 (by decide) rfl rfl rfl ?_
    refine wp_goto (t := 5) d_Ar_fill_AII_17 (by decide) ?_
    rw [nI_clamp (by omega), show nI i + 1 = nI (i + 1) from nI_1 i, sp_fil_s]
    exact ih (i + 1) (by omega)
set_option maxRecDepth 4000 in
theorem c_Ar_fill_AII {p n : Nat} {v : Int32} {f : Nat → Int32} (hD : 0 ≤ D) (he : h[p]? = some (iA n f)) (hn : n < 2 ^ 31) (k : Q none (h.set p (iA n (sp_fil f v n)))) : px_W G D 0 0 m_Ar_fill_AII 0 (px_ent 4 [.ref p, .int v]) [] h Q := by
  show px_W _ _ _ _ _ _ [some (.ref p), some (.int v), none, none] [] _ _
  refine wp_iconst (v := (nI 0)) d_Ar_fill_AII_0 rfl ?_
  refine wp_istore_n (ls' := [_, _, _, _]) d_Ar_fill_AII_1 rfl (by decide) rfl ?_
  refine wp_aload_n d_Ar_fill_AII_2 rfl rfl rfl ?_
  refine wp_alen (t0 := 0) d_Ar_fill_AII_3 he rfl (show Int32.ofNat n = nI n from rfl) ?_
  refine wp_istore_n (ls' := [_, _, _, _]) d_Ar_fill_AII_4 rfl (by decide) rfl ?_
  have q := l_Ar_fill_AII_5 (G := G) (D := D) he hn k n 0 (Nat.zero_add n)
  rw [sp_fil_0, px_set_id he] at q
  exact q
set_option maxRecDepth 4000 in
theorem c_Tr_startFrom {o : Nat} {n B : Nat} {kd vd : Nat → Int32} {ln : Nat → Nat} {cl : List sp_Cl} (hD : 2 ≤ D) (ho : o < 4) (ho2 : o ≠ 2) (hR : tc_R mn sc MZ r) (hst : st_ok mn sc K o n B kd vd ln cl) (k : ∀ j2 b2 w2, si_cp (K.1 o) (K.1 2) j2 (K.2.1 o) (K.2.1 2) b2 (K.2.2.1 o) w2 → Q none (HT (ks K 2 j2 b2 w2 (K.2.2.2.1 o)) MZ r)) : px_W G D 0 0 m_Tr_startFrom 0 (px_ent 2 [.ref 23, .ref (tc_p o)]) [] (HT K MZ r) Q := by
  show px_W _ _ _ _ _ _ [some (.ref 23), some (.ref (tc_p o))] [] _ _
  refine wp_aload_n d_Tr_startFrom_0 rfl rfl rfl ?_
  refine gR_0 gf_Tr_15_2 d_Tr_startFrom_1 ?_
  refine wp_aload_n d_Tr_startFrom_4 rfl rfl rfl ?_
  refine toS 2 ?_
  refine wp_callV (r := (R_1, T_1, 15)) (M' := m_Si_copyChain) (as := [_]) (D' := D - 1) (C1 := 0) (C2 := 0) (S1 := 0) (S2 := 0) d_Tr_startFrom_5 rfl w_708 w_709 w_710 (ts_0 (by decide)) k_Si_copyChain (Nat.le_of_ble_eq_true rfl) rfl (Nat.le_of_ble_eq_true rfl) (by omega) rfl rfl ?_
  refine c_Si_copyChain (by omega) (by decide) ho ho2 hR hst.2.2.2.1 (fun j2 b2 w2 hcp => ?_)
  refine wp_return d_Tr_startFrom_8 rfl ?_
  exact k j2 b2 w2 hcp
set_option maxRecDepth 4000 in
theorem c_Tr_blame {m : Nat} (hD : 0 ≤ D) (hm : m < 6) (k : Q none (HT (kB K 4 (va_up (K.2.1 4) 2 (upd (K.2.1 4 2) m (K.2.1 4 2 m + 1)))) MZ r)) : px_W G D 0 0 m_Tr_blame 0 (px_ent 2 [.ref 23, .int (nI m)]) [] (HT K MZ r) Q := by
  show px_W _ _ _ _ _ _ [some (.ref 23), some (.int (nI m))] [] _ _
  refine wp_iload_n d_Tr_blame_0 rfl rfl ?_
  refine wp_if_lt (t := 20) d_Tr_blame_1 (by decide) (fun c_1 => absurd c_1 (nI_pos (by omega))) (fun c_1 => ?_)
  refine wp_iload_n d_Tr_blame_4 rfl rfl ?_
  refine wp_bipush (v := (nI 6)) d_Tr_blame_5 (by decide) ?_
  refine wp_icmp_ge (t := 20) d_Tr_blame_7 (by decide) (fun c_7 => absurd c_7 (nI_ge hm (by decide))) (fun c_7 => ?_)
  refine wp_aload_n d_Tr_blame_10 rfl rfl rfl ?_
  refine gR_2 gf_Tr_9_2 d_Tr_blame_11 ?_
  refine wp_iload_n d_Tr_blame_14 rfl rfl ?_
  refine wp_dup2 d_Tr_blame_15 rfl rfl ?_
  refine lA_40 d_Tr_blame_16 (vp_in_nI hm (by decide)) ?_
  refine wp_iconst (v := 1) d_Tr_blame_17 rfl ?_
  refine wp_iadd d_Tr_blame_18 ?_
  refine sA_40 d_Tr_blame_19 (vp_in_nI hm (by decide)) ?_
  refine wp_return d_Tr_blame_20 rfl ?_
  rw [nI_clamp (by omega)]
  exact k
theorem sp_up_b {S : sp_St} {t : Int32} {held free : Nat → Int32} {B : Nat} (h : sp_wb S held B) (hB : B + 6 ≤ 40000) (hres : (sp_throw S 2000000000 t held free).1 = none) : ∃ x, x ≤ 60000 ∧ (sp_throw S 2000000000 t held free).2.1 - t = nI x := by
  have hn := h.2.1
  have g := sp_go_b S.2.2.2.2.1 0 (t + sp_rise S.2.2.2.2.2) held free B h (by omega) (Nat.zero_add _) _ _ _ _ rfl
  obtain ⟨x, hx, ex⟩ := g.1 hres
  obtain ⟨y, hy, ey⟩ := sp_last_b (w := 2) S.2.2.2.2.2 5 h.1.2.2 (by decide)
  refine ⟨y + x, by omega, ?_⟩
  have e2 : (sp_throw S 2000000000 t held free).2.1 = t + sp_rise S.2.2.2.2.2 + nI x := ex
  rw [e2, show sp_rise S.2.2.2.2.2 = nI y from ey, Int32.add_assoc, nI_add, Int32.add_comm, Int32.sub_eq_add_neg, Int32.add_assoc, Int32.add_right_neg, Int32.add_zero]
set_option maxRecDepth 8000 in
set_option maxHeartbeats 1000000 in
theorem l_Tr_throwTubes_36 {n B : Nat} {kd vd : Nat → Int32} {ln : Nat → Nat} {cl : List sp_Cl} {nn : Nat} {bt t0 : Int32} {rows : Nat → Int32} (hD : 8 ≤ D) (hn30 : nn ≤ 30) (hB : B ≤ 20000) (hgd : tc_gd cl) (hrows : ∀ i, i < 24 → ∃ x, x ≤ 9 ∧ rows i = nI x) (hvd1 : ∀ p, p < n → ln p < 6 ∧ ∃ vv, vv ≤ 9 ∧ vd (ln p) = nI vv) (ht0 : K.1 2 9 = t0) : ∀ (q k : Nat) (z : sp_LS) (K1 : tc_K) (r1 : tc_r), k + q = nn → tk [3, 4] K K1 → tc_R mn sc MZ r1 → si_w mn n (K1.1 3) (K1.2.1 3) (K1.2.2.1 3) kd vd ln → si_h (K1.2.1 3) (B + 6 * k) → K1.2.1 3 3 = rows → sc.1 (K1.2.2.2.1 3) = some cl → K1.1 3 9 = z.1 → K1.2.1 3 1 = z.2.1 → K1.2.1 3 2 = z.2.2.1 → K1.1 4 3 = z.2.2.2.1 → fl_ok k z.2.2.2.2.1 (K1.1 4 5) z.2.2.2.1 → K1.1 4 4 = z.2.2.2.2.2.1 → K1.2.1 4 2 = z.2.2.2.2.2.2 → (∀ K2 (r2 : tc_r), tk [3, 4] K K2 → tc_R mn sc MZ r2 → K2.1 4 3 = (sp_ly (kd, vd, rows, ln, n, cl) t0 bt 0 0 q k z).2.2.2.1 → K2.1 4 4 = (sp_ly (kd, vd, rows, ln, n, cl) t0 bt 0 0 q k z).2.2.2.2.2.1 → K2.2.1 4 2 = (sp_ly (kd, vd, rows, ln, n, cl) t0 bt 0 0 q k z).2.2.2.2.2.2 → fl_ok nn (sp_ly (kd, vd, rows, ln, n, cl) t0 bt 0 0 q k z).2.2.2.2.1 (K2.1 4 5) (sp_ly (kd, vd, rows, ln, n, cl) t0 bt 0 0 q k z).2.2.2.1 → Q none (HT K2 MZ r2)) → px_W G D 0 0 m_Tr_throwTubes 36 [some (.ref 23), some (.int (nI nn)), some (.int bt), some (.int (nI k)), none, none] [] (HT K1 MZ r1) Q := by
  intro q
  induction q with
  | zero =>
    intro k z K1 r1 hkq hk1 hR1 hw1 hh1 hr1 hsc1 h19 hb1 hb2 hmany hfl hlat hdr kk
    refine wp_iload_n d_Tr_throwTubes_36 rfl rfl ?_
    refine wp_iload_n d_Tr_throwTubes_37 rfl rfl ?_
    refine wp_icmp_ge (t := 129) d_Tr_throwTubes_38 (by decide) (fun c_38 => ?_) (fun c_38 => absurd (nI_le (by omega) (by omega)) c_38)
    refine wp_return d_Tr_throwTubes_129 rfl ?_
    exact kk K1 r1 hk1 hR1 hmany hlat hdr (by rw [show nn = k from by omega]; exact hfl)
  | succ q ih =>
    intro k z K1 r1 hkq hk1 hR1 hw1 hh1 hr1 hsc1 h19 hb1 hb2 hmany hfl hlat hdr kk
    have h20 : K1.1 2 9 = t0 := by rw [(hk1.1 2 (by decide)).1]; exact ht0
    refine toS 3 ?_
    refine wp_iload_n d_Tr_throwTubes_36 rfl rfl ?_
    refine wp_iload_n d_Tr_throwTubes_37 rfl rfl ?_
    refine wp_icmp_ge (t := 129) d_Tr_throwTubes_38 (by decide) (fun c_38 => absurd c_38 (nI_ge (by omega) (by omega))) (fun c_38 => ?_)
    refine wp_aload_n d_Tr_throwTubes_41 rfl rfl rfl ?_
    refine gR_1 gf_Tr_19_2 d_Tr_throwTubes_42 ?_
    refine gS_9 (by decide) gf_Tr_44_1 d_Tr_throwTubes_45 ?_
    refine wp_aload_n d_Tr_throwTubes_48 rfl rfl rfl ?_
    refine gR_0 gf_Tr_15_2 d_Tr_throwTubes_49 ?_
    refine gO_9 (o := 2) (by decide) (by decide) gf_Tr_44_1 d_Tr_throwTubes_52 ?_
    refine wp_isub d_Tr_throwTubes_55 ?_
    refine wp_istore (ls' := [_, _, _, _, _, _]) d_Tr_throwTubes_56 (by decide) rfl ?_
    refine wp_aload_n d_Tr_throwTubes_58 rfl rfl rfl ?_
    refine gR_1 gf_Tr_19_2 d_Tr_throwTubes_59 ?_
    refine wp_iload_n d_Tr_throwTubes_62 rfl rfl ?_
    refine wp_callV (r := (R_1, T_1, 15)) (M' := m_Si_throwTube) (as := [_]) (D' := D - 1) (C1 := 0) (C2 := 0) (S1 := 0) (S2 := 0) d_Tr_throwTubes_63 rfl w_719 w_674 w_675 (ts_0 (by decide)) k_Si_throwTube (Nat.le_of_ble_eq_true rfl) rfl (Nat.le_of_ble_eq_true rfl) (by omega) rfl rfl ?_
    refine c_Si_throwTube (by omega) (by decide) hsc1 hw1 (by omega) hR1 hh1 ?_
    intro j2 b2 r2 hR2 hm2 h92 e1 e2 hh2
    rw [hr1, h19, hb1, hb2] at e1 e2 ⊢
    have hly : sp_ly (kd, vd, rows, ln, n, cl) t0 bt 0 0 (q + 1) k z = sp_ly (kd, vd, rows, ln, n, cl) t0 bt 0 0 q (k + 1) (sp_l1 (kd, vd, rows, ln, n, cl) t0 bt 0 0 k z) := rfl
    cases hres : (sp_throw (kd, vd, rows, ln, n, cl) 2000000000 z.1 z.2.1 z.2.2.1).1 with
    | none =>
      intro g10 g11
      have hz1 : sp_l1 (kd, vd, rows, ln, n, cl) t0 bt 0 0 k z = (z.1 + bt, (sp_throw (kd, vd, rows, ln, n, cl) 2000000000 z.1 z.2.1 z.2.2.1).2.2.1, (sp_throw (kd, vd, rows, ln, n, cl) 2000000000 z.1 z.2.1 z.2.2.1).2.2.2, z.2.2.2.1 + 1, z.2.2.2.2.1 ||| (1 <<< (nI k &&& 31)), (if z.2.2.2.2.2.1 < (sp_throw (kd, vd, rows, ln, n, cl) 2000000000 z.1 z.2.1 z.2.2.1).2.1 - t0 then (sp_throw (kd, vd, rows, ln, n, cl) 2000000000 z.1 z.2.1 z.2.2.1).2.1 - t0 else z.2.2.2.2.2.1), z.2.2.2.2.2.2) := by
        unfold sp_l1
        rw [hres, sp_bt_0]
      obtain ⟨x, hx, ex⟩ := sp_up_b (t := z.1) (held := z.2.1) (free := z.2.2.1) (B := B + 6 * k) ⟨hgd, hw1.1, fun p hp => hvd1 p hp, hrows, by rw [← hb1]; exact hh1⟩ (by omega) hres
      have htk : (sp_throw (kd, vd, rows, ln, n, cl) 2000000000 z.1 z.2.1 z.2.2.1).2.1 - z.1 = nI x := ex
      refine wp_istore (ls' := [_, _, _, _, _, _]) d_Tr_throwTubes_66 (by decide) rfl ?_
      refine wp_iload d_Tr_throwTubes_68 rfl ?_
      refine wp_if_lt (t := 102) d_Tr_throwTubes_70 (by decide) (fun c_70 => absurd c_70 (by rw [htk]; exact nI_pos (by omega))) (fun c_70 => ?_)
      refine wp_aload_n d_Tr_throwTubes_73 rfl rfl rfl ?_
      refine wp_dup d_Tr_throwTubes_74 rfl ?_
      refine gR_3 gf_Tr_34_2 d_Tr_throwTubes_75 ?_
      refine wp_iconst (v := 1) d_Tr_throwTubes_78 rfl ?_
      refine wp_iadd d_Tr_throwTubes_79 ?_
      refine pR_3 pgf_Tr_34_2 d_Tr_throwTubes_80 ?_
      refine wp_aload_n d_Tr_throwTubes_83 rfl rfl rfl ?_
      refine wp_aload_n d_Tr_throwTubes_84 rfl rfl rfl ?_
      refine gR_4 gf_Tr_38_2 d_Tr_throwTubes_85 ?_
      refine wp_iload d_Tr_throwTubes_88 rfl ?_
      refine wp_iload d_Tr_throwTubes_90 rfl ?_
      refine wp_iadd d_Tr_throwTubes_92 ?_
      refine wp_max d_Tr_throwTubes_93 w_720 (Nat.le_of_ble_eq_true rfl) (by omega) ?_
      refine pR_4 pgf_Tr_38_2 d_Tr_throwTubes_96 ?_
      refine wp_goto (t := 123) d_Tr_throwTubes_99 (by decide) ?_
      refine wp_iinc (v := _ + 1) (ls' := [_, _, _, _, _, _]) d_Tr_throwTubes_123 (by decide) rfl rfl rfl ?_
      refine wp_goto (t := 36) d_Tr_throwTubes_126 (by decide) ?_
      rw [show nI k + 1 = nI (k + 1) from nI_1 k]
      refine wp_less (ls' := [some (.ref 23), some (.int (nI nn)), some (.int bt), some (.int (nI (k + 1))), none, none]) ⟨rfl, rfl, rfl, rfl, trivial⟩ ?_
      refine ih (k + 1) (z.1 + bt, (sp_throw (kd, vd, rows, ln, n, cl) 2000000000 z.1 z.2.1 z.2.2.1).2.2.1, (sp_throw (kd, vd, rows, ln, n, cl) 2000000000 z.1 z.2.1 z.2.2.1).2.2.2, z.2.2.2.1 + 1, z.2.2.2.2.1 ||| (1 <<< (nI k &&& 31)), (if z.2.2.2.2.2.1 < (sp_throw (kd, vd, rows, ln, n, cl) 2000000000 z.1 z.2.1 z.2.2.1).2.1 - t0 then (sp_throw (kd, vd, rows, ln, n, cl) 2000000000 z.1 z.2.1 z.2.2.1).2.1 - t0 else z.2.2.2.2.2.1), z.2.2.2.2.2.2) _ r2 (by omega) (((hk1.s 3 (by decide) _ _ _ _).j 4 (by decide) _).j 4 (by decide) _) hR2 (hw1.ms hm2 (by decide) (by decide)) (by rw [show B + 6 * (k + 1) = B + 6 * k + 6 from by omega]; exact hh2) ((hm2.2 3 (by decide)).trans hr1) hsc1 (h92.trans (by rw [h19])) e1 e2 (show K1.1 4 3 + 1 = _ from by rw [hmany]) (by show fl_ok (k + 1) _ (K1.1 4 5) _; exact hfl.up (by omega)) ?_ (show K1.2.1 4 2 = _ from hdr) (fun K2 r3 a1 a2 a3 a4 a5 a6 => kk K2 r3 a1 a2 ?_ ?_ ?_ ?_)
      · show (if K1.1 4 4 < (z.1 - K1.1 2 9) + ((sp_throw (kd, vd, rows, ln, n, cl) 2000000000 z.1 z.2.1 z.2.2.1).2.1 - z.1) then (z.1 - K1.1 2 9) + ((sp_throw (kd, vd, rows, ln, n, cl) 2000000000 z.1 z.2.1 z.2.2.1).2.1 - z.1) else K1.1 4 4) = _
        rw [sub3, hlat, h20]
      · rw [hly, hz1]; exact a3
      · rw [hly, hz1]; exact a4
      · rw [hly, hz1]; exact a5
      · rw [hly, hz1]; exact a6
    | some m =>
      intro hm6 g10 g11
      have hz1 : sp_l1 (kd, vd, rows, ln, n, cl) t0 bt 0 0 k z = (z.1 + bt, (sp_throw (kd, vd, rows, ln, n, cl) 2000000000 z.1 z.2.1 z.2.2.1).2.2.1, (sp_throw (kd, vd, rows, ln, n, cl) 2000000000 z.1 z.2.1 z.2.2.1).2.2.2, z.2.2.2.1, z.2.2.2.2.1, z.2.2.2.2.2.1, upd z.2.2.2.2.2.2 m (z.2.2.2.2.2.2 m + 1)) := by
        unfold sp_l1
        rw [hres, sp_bt_0]
      refine wp_istore (ls' := [_, _, _, _, _, _]) d_Tr_throwTubes_66 (by decide) rfl ?_
      refine wp_iload d_Tr_throwTubes_68 rfl ?_
      refine wp_if_lt (t := 102) d_Tr_throwTubes_70 (by decide) (fun c_70 => ?_) (fun c_70 => absurd (sub10 m hm6).1 c_70)
      refine wp_aload_n d_Tr_throwTubes_102 rfl rfl rfl ?_
      refine wp_dup d_Tr_throwTubes_103 rfl ?_
      refine gR_5 gf_Tr_41_2 d_Tr_throwTubes_104 ?_
      refine wp_iconst (v := 1) d_Tr_throwTubes_107 rfl ?_
      refine wp_iload_n d_Tr_throwTubes_108 rfl rfl ?_
      refine wp_ishl d_Tr_throwTubes_109 ?_
      refine wp_ior d_Tr_throwTubes_110 ?_
      refine pR_5 pgf_Tr_41_2 d_Tr_throwTubes_111 ?_
      refine wp_aload_n d_Tr_throwTubes_114 rfl rfl rfl ?_
      refine wp_bipush (v := (-10)) d_Tr_throwTubes_115 (by decide) ?_
      refine wp_iload d_Tr_throwTubes_117 rfl ?_
      refine wp_isub d_Tr_throwTubes_119 ?_
      rw [(sub10 m hm6).2]
      refine wp_callV (r := (R_2, T_2, 6)) (M' := m_Tr_blame) (as := [_]) (D' := D - 1) (C1 := 0) (C2 := 0) (S1 := 0) (S2 := 0) d_Tr_throwTubes_120 rfl w_721 w_723 w_12 tt_23 k_Tr_blame (Nat.le_of_ble_eq_true rfl) rfl (Nat.le_of_ble_eq_true rfl) (by omega) rfl rfl ?_
      refine c_Tr_blame (by omega) hm6 ?_ 
      refine wp_iinc (v := _ + 1) (ls' := [_, _, _, _, _, _]) d_Tr_throwTubes_123 (by decide) rfl rfl rfl ?_
      refine wp_goto (t := 36) d_Tr_throwTubes_126 (by decide) ?_
      rw [show nI k + 1 = nI (k + 1) from nI_1 k]
      refine wp_less (ls' := [some (.ref 23), some (.int (nI nn)), some (.int bt), some (.int (nI (k + 1))), none, none]) ⟨rfl, rfl, rfl, rfl, trivial⟩ ?_
      refine ih (k + 1) (z.1 + bt, (sp_throw (kd, vd, rows, ln, n, cl) 2000000000 z.1 z.2.1 z.2.2.1).2.2.1, (sp_throw (kd, vd, rows, ln, n, cl) 2000000000 z.1 z.2.1 z.2.2.1).2.2.2, z.2.2.2.1, z.2.2.2.2.1, z.2.2.2.2.2.1, upd z.2.2.2.2.2.2 m (z.2.2.2.2.2.2 m + 1)) _ r2 (by omega) (((hk1.s 3 (by decide) _ _ _ _).j 4 (by decide) _).b 4 (by decide) _) hR2 (hw1.ms hm2 (by decide) (by decide)) (by rw [show B + 6 * (k + 1) = B + 6 * k + 6 from by omega]; exact hh2) ((hm2.2 3 (by decide)).trans hr1) hsc1 (h92.trans (by rw [h19])) e1 e2 (show K1.1 4 3 = _ from hmany) (by show fl_ok (k + 1) _ (K1.1 4 5 ||| (1 <<< (nI k &&& 31))) _; exact hfl.dn (by omega)) (show K1.1 4 4 = _ from hlat) (by show upd (K1.2.1 4 2) m (K1.2.1 4 2 m + 1) = _; rw [hdr]) (fun K2 r3 a1 a2 a3 a4 a5 a6 => kk K2 r3 a1 a2 ?_ ?_ ?_ ?_)
      · rw [hly, hz1]; exact a3
      · rw [hly, hz1]; exact a4
      · rw [hly, hz1]; exact a5
      · rw [hly, hz1]; exact a6
end TDA
