/-- the trial's start is as S, t0, hl, fr tell; the rest of K is as it was -/
def strt (mn : tc_mn) (sc : tc_sc) (K K1 : tc_K) (B : Nat) (S : sp_St) (t0 : Int32) (hl fr : Nat → Int32) : Prop := tk [2, 3, 4] K K1 ∧ st_ok mn sc K1 2 S.2.2.2.2.1 B S.1 S.2.1 S.2.2.2.1 S.2.2.2.2.2 ∧ (∀ i, i < 24 → K1.2.1 2 3 i = S.2.2.1 i) ∧ K1.1 2 9 = t0 ∧ sp_he (K1.2.1 2 1) hl ∧ sp_he (K1.2.1 2 2) fr
section TDD
variable {G : px_G} {D : Nat} {K K1 : tc_K} {MZ h : px_H} {r r1 : tc_r} {Q : Option Value → px_H → Prop} {mn : tc_mn} {sc : tc_sc} {B : Nat} {S : sp_St} {t0 : Int32} {hl fr : Nat → Int32}
theorem strt.tk3 {K2 : tc_K} (h : strt mn sc K K1 B S t0 hl fr) (hk : tk [3, 4] K1 K2) : strt mn sc K K2 B S t0 hl fr := by
  obtain ⟨h1, h2, h3⟩ := h
  obtain ⟨t1, t2, t3, t4⟩ := hk.1 2 (by decide)
  refine ⟨h1.tr (hk.mo (by decide)), h2.tk hk (by decide), ?_⟩
  rw [t1, t2]
  exact h3
theorem strt.lay (h : strt mn sc K K1 B S t0 hl fr) (d : Nat → Int32) (nn : Nat) (bt rr : Int32) (jj : Nat) : (sp_lay (S.1, S.2.1, K1.2.1 2 3, S.2.2.2.1, S.2.2.2.2.1, S.2.2.2.2.2) (K1.1 2 9) (K1.2.1 2 1) (K1.2.1 2 2) d nn bt rr jj).2.2.2 = (sp_lay S t0 hl fr d nn bt rr jj).2.2.2 := by
  obtain ⟨h1, h2, h3, h4, h5, h6⟩ := h
  rw [h4]
  exact sp_lay_x ⟨fun _ _ => ⟨rfl, rfl⟩, h3, rfl, fun p hp => ⟨rfl, (h2.1.2.2 p hp).1⟩⟩ h5 h6
theorem strt.of {S2 : sp_St} {hl2 fr2 : Nat → Int32} (h : strt mn sc K K1 B S t0 hl fr) (e : S = S2) (e1 : hl = hl2) (e2 : fr = fr2) : strt mn sc K K1 B S2 t0 hl2 fr2 := by
  subst e; subst e1; subst e2; exact h
theorem strt.re (h : strt mn sc K K1 B S t0 hl fr) {K0 : tc_K} (h0 : tk [2, 3, 4] K0 K) : strt mn sc K0 K1 B S t0 hl fr := ⟨h0.tr h.1, h.2⟩
theorem c_tt {nn : Nat} {bt : Int32} (hD : 8 ≤ D) (hR : tc_R mn sc MZ r1) (hs : strt mn sc K K1 B S t0 hl fr) (hB : B ≤ 20000) (hn30 : nn ≤ 30) (k : ∀ K2 (r2 : tc_r), strt mn sc K K2 B S t0 hl fr → tc_R mn sc MZ r2 → K2.1 4 3 = sp_many S t0 hl fr nn bt 0 0 → K2.1 4 4 = sp_lat S t0 hl fr nn bt 0 0 → (∀ x, x < 6 → K2.2.1 4 2 x = sp_drp S t0 hl fr nn bt 0 0 x) → fl_ok nn (sp_ups S t0 hl fr nn bt 0 0) (K2.1 4 5) (sp_many S t0 hl fr nn bt 0 0) → Q none (HT K2 MZ r2)) : px_W G D 0 0 m_Tr_throwTubes 0 (px_ent 6 [.ref 23, .int (nI nn), .int bt]) [] (HT K1 MZ r1) Q := by
  refine c_Tr_throwTubes hD hR hs.2.1 hB hn30 (fun K2 r2 h1 h2 m1 m2 m3 m4 => ?_)
  have e := hs.lay (fun _ => 0) nn bt 0 0
  refine k K2 r2 (hs.tk3 h1) h2 (m1.trans (congrArg (fun z => z.1) e)) (m2.trans (congrArg (fun z => z.2.2.1) e)) (fun x hx => (m3 x hx).trans (congrFun (congrArg (fun z => z.2.2.2) e) x)) ?_
  have e1 : sp_many (S.1, S.2.1, K1.2.1 2 3, S.2.2.2.1, S.2.2.2.2.1, S.2.2.2.2.2) (K1.1 2 9) (K1.2.1 2 1) (K1.2.1 2 2) nn bt 0 0 = sp_many S t0 hl fr nn bt 0 0 := congrArg (fun z => z.1) e
  have e2 : sp_ups (S.1, S.2.1, K1.2.1 2 3, S.2.2.2.1, S.2.2.2.2.1, S.2.2.2.2.2) (K1.1 2 9) (K1.2.1 2 1) (K1.2.1 2 2) nn bt 0 0 = sp_ups S t0 hl fr nn bt 0 0 := congrArg (fun z => z.2.1) e
  rw [← e1, ← e2]
  exact m4
theorem c_nf {nn jj : Nat} {bt rr : Int32} (hD : 8 ≤ D) (hR : tc_R mn sc MZ r1) (hs : strt mn sc K K1 B S t0 hl fr) (hB : B ≤ 20000) (hn30 : nn ≤ 30) (hj : jj ≤ 60) (kt : sp_many S t0 hl fr nn bt rr jj = nI nn → ∀ K2 (r2 : tc_r), strt mn sc K K2 B S t0 hl fr → tc_R mn sc MZ r2 → Q (some (.int 1)) (HT K2 MZ r2)) (kf : sp_many S t0 hl fr nn bt rr jj ≠ nI nn → ∀ K2 (r2 : tc_r), strt mn sc K K2 B S t0 hl fr → tc_R mn sc MZ r2 → Q (some (.int 0)) (HT K2 MZ r2)) : px_W G D 0 0 m_Tr_noneFalls 0 (px_ent 6 [.ref 23, .int (nI nn), .int bt, .int (nI jj), .int rr]) [] (HT K1 MZ r1) Q := by
  have e1 : sp_many (S.1, S.2.1, K1.2.1 2 3, S.2.2.2.1, S.2.2.2.2.1, S.2.2.2.2.2) (K1.1 2 9) (K1.2.1 2 1) (K1.2.1 2 2) nn bt rr jj = sp_many S t0 hl fr nn bt rr jj := congrArg (fun z => z.1) (hs.lay (fun _ => 0) nn bt rr jj)
  exact c_Tr_noneFalls hD hR hs.2.1 hB hn30 hj (fun h K2 r2 h1 h2 => kt (e1.symm.trans h) K2 r2 (hs.tk3 (h1.mo (by decide))) h2) (fun h K2 r2 h1 h2 => kf (fun z => h (e1.trans z)) K2 r2 (hs.tk3 (h1.mo (by decide))) h2)
theorem c_lsb {nn lim : Nat} (hD : 9 ≤ D) (hR : tc_R mn sc MZ r1) (hs : strt mn sc K K1 B S t0 hl fr) (hB : B ≤ 20000) (hn30 : nn ≤ 30) (hl0 : lim ≤ 1000) (hl1 : 1 ≤ lim) (k : ∀ K2 (r2 : tc_r), strt mn sc K K2 B S t0 hl fr → tk [3] K1 K2 → tc_R mn sc MZ r2 → Q (some (.int (sp_lsb (fun z => sp_many S t0 hl fr nn z 0 0) (nI nn) (lim - 1) 1))) (HT K2 MZ r2)) : px_W G D 0 0 m_Tr_leastSafeBelow 0 (px_ent 4 [.ref 23, .int (nI nn), .int (nI lim)]) [] (HT K1 MZ r1) Q := by
  have e1 : (fun z => sp_many (S.1, S.2.1, K1.2.1 2 3, S.2.2.2.1, S.2.2.2.2.1, S.2.2.2.2.2) (K1.1 2 9) (K1.2.1 2 1) (K1.2.1 2 2) nn z 0 0) = (fun z => sp_many S t0 hl fr nn z 0 0) := funext fun z => congrArg (fun z => z.1) (hs.lay (fun _ => 0) nn z 0 0)
  refine c_Tr_leastSafeBelow hD hR hs.2.1 hB hn30 hl0 hl1 (fun K2 r2 h1 h2 => ?_)
  rw [e1]
  exact k K2 r2 (hs.tk3 (h1.mo (by decide))) h1 h2
theorem c_st {n : Nat} {kd vd : Nat → Int32} {ln : Nat → Nat} {cl : List sp_Cl} (hD : 2 ≤ D) (hR : tc_R mn sc MZ r) (hst : st_ok mn sc K 0 n B kd vd ln cl) (k : ∀ K2, strt mn sc K K2 B (kd, vd, K.2.1 0 3, ln, n, cl) (K.1 0 9) (K.2.1 0 1) (K.2.1 0 2) → (∀ f, 7 ≤ f → f ≤ 11 → K2.1 2 f = K.1 0 f) → tk [2] K K2 → Q none (HT K2 MZ r)) : px_W G D 0 0 m_Tr_startFrom 0 (px_ent 2 [.ref 23, .ref (tc_p 0)]) [] (HT K MZ r) Q := by
  refine c_Tr_startFrom (o := 0) hD (by decide) (by decide) hR hst (fun j2 b2 w2 hcp => k _ ⟨(tk.rf.s 2 (by decide) j2 b2 w2 _), st_ok.cp (s := 2) hst hcp, hcp.2.2.2.1, hcp.1 9 (by decide) (by decide), fun m hm => (hcp.2.2.1 m hm).1, fun m hm => (hcp.2.2.1 m hm).2.1⟩ hcp.1 (tk.rf.s 2 (by decide) j2 b2 w2 _))
theorem sp_clu_in {f : Nat → Int32} : ∀ (d i : Nat) (w m : Int32), i + d ≤ 6 → (w = -5 ∨ ∃ q, q < 6 ∧ w = nI q) → ¬ sp_clu f d i w m < 0 → vp_in (sp_clu f d i w m) 6 := by
  intro d
  induction d with
  | zero =>
    intro i w m _ hw h
    rcases hw with rfl | ⟨q, hq, rfl⟩
    · exact absurd (show (-5 : Int32) < 0 from by decide) h
    · exact vp_in_nI hq (by decide)
  | succ d ih =>
    intro i w m hid hw h
    rw [sp_clu] at h ⊢
    split at h
    · rename_i hc
      rw [if_pos hc]
      exact ih (i + 1) _ _ (by omega) (Or.inr ⟨i, by omega, rfl⟩) h
    · rename_i hc
      rw [if_neg hc]
      exact ih (i + 1) _ _ (by omega) hw h
set_option maxRecDepth 4000 in
theorem c_TC_on {n : Nat} {kd vd : Nat → Int32} {ln : Nat → Nat} {cl : List sp_Cl} {x bt y : Int32} (hD : 9 ≤ D) (hR : tc_R mn sc MZ r) (hst : st_ok mn sc K 0 n B kd vd ln cl) (hB : B ≤ 20000) (kn : ¬ (0 ≤ y ∧ y ≤ 3) → Q (some (.int (-1))) (HT K MZ r)) (kb : (0 ≤ y ∧ y ≤ 3) → ¬ ((0 ≤ x ∧ x ≤ 30) ∧ (1 ≤ bt ∧ bt ≤ 99)) → Q (some (.int (-2))) (HT K MZ r)) (kk : (0 ≤ y ∧ y ≤ 3) → ∀ nn, nn ≤ 30 → x = nI nn → (1 ≤ bt ∧ bt ≤ 99) → ∀ K2 (r2 : tc_r), tk [2, 3, 4] K K2 → tc_R mn sc MZ r2 → ∀ dr : Nat → Int32, (∀ q, q < 6 → dr q = sp_drp (kd, vd, K.2.1 0 3, ln, n, cl) (K.1 0 9) (K.2.1 0 1) (K.2.1 0 2) nn bt 0 0 q) → Q (some (.int (if y = 0 then sp_many (kd, vd, K.2.1 0 3, ln, n, cl) (K.1 0 9) (K.2.1 0 1) (K.2.1 0 2) nn bt 0 0 else if y = 1 then sp_lat (kd, vd, K.2.1 0 3, ln, n, cl) (K.1 0 9) (K.2.1 0 1) (K.2.1 0 2) nn bt 0 0 else if y = 2 then sp_clu dr 6 0 (-5) 0 else if sp_clu dr 6 0 (-5) 0 < 0 then 0 else dr (sp_clu dr 6 0 (-5) 0).toNatClampNeg))) (HT K2 MZ r2)) : px_W G D 0 0 m_TC_on 0 (px_ent 5 [.ref 0, .int x, .int bt, .int y]) [] (HT K MZ r) Q := by
  show px_W _ _ _ _ _ _ [some (.ref 0), some (.int x), some (.int bt), some (.int y), none] [] _ _
  refine wp_iload_n d_TC_on_0 rfl rfl ?_
  refine wp_if_lt (t := 9) d_TC_on_1 (by decide) (fun c_1 => ?_) (fun c_1 => ?_)
  · skip
    refine wp_iconst (v := (-1)) d_TC_on_9 rfl ?_
    refine wp_ireturn d_TC_on_10 rfl rfl ?_
    first
      | exact kn (fun z => absurd z.1 (Int32.not_le.mpr c_1))
      | exact kn (fun z => c_6 z.2)
  · skip
    refine wp_iload_n d_TC_on_4 rfl rfl ?_
    refine wp_iconst (v := 3) d_TC_on_5 rfl ?_
    refine wp_icmp_le (t := 11) d_TC_on_6 (by decide) (fun c_6 => ?_) (fun c_6 => ?_)
    · skip
      refine wp_iload_n d_TC_on_11 rfl rfl ?_
      refine wp_if_lt (t := 28) d_TC_on_12 (by decide) (fun c_12 => ?_) (fun c_12 => ?_)
      · skip
        refine wp_bipush (v := (-2)) d_TC_on_28 (by decide) ?_
        refine wp_ireturn d_TC_on_30 rfl rfl ?_
        first
          | exact kb ⟨Int32.not_lt.mp c_1, c_6⟩ (fun z => absurd z.1.1 (Int32.not_le.mpr c_12))
          | exact kb ⟨Int32.not_lt.mp c_1, c_6⟩ (fun z => absurd z.1.2 (Int32.not_le.mpr c_18))
          | exact kb ⟨Int32.not_lt.mp c_1, c_6⟩ (fun z => hbt z.2)
      · skip
        refine wp_iload_n d_TC_on_15 rfl rfl ?_
        refine wp_bipush (v := 30) d_TC_on_16 (by decide) ?_
        refine wp_icmp_gt (t := 28) d_TC_on_18 (by decide) (fun c_18 => ?_) (fun c_18 => ?_)
        · skip
          refine wp_bipush (v := (-2)) d_TC_on_28 (by decide) ?_
          refine wp_ireturn d_TC_on_30 rfl rfl ?_
          first
            | exact kb ⟨Int32.not_lt.mp c_1, c_6⟩ (fun z => absurd z.1.1 (Int32.not_le.mpr c_12))
            | exact kb ⟨Int32.not_lt.mp c_1, c_6⟩ (fun z => absurd z.1.2 (Int32.not_le.mpr c_18))
            | exact kb ⟨Int32.not_lt.mp c_1, c_6⟩ (fun z => hbt z.2)
        · skip
          refine wp_iload_n d_TC_on_21 rfl rfl ?_
          refine wp_callS (M' := m_TC_isNoBeat) (as := [_]) (D' := D - 1) (C1 := 0) (C2 := 0) (S1 := 0) (S2 := 0) d_TC_on_22 w_669 w_670 k_TC_isNoBeat (Nat.le_of_ble_eq_true rfl) rfl (Nat.le_of_ble_eq_true rfl) (by omega) rfl rfl ?_
          refine c_TC_isNoBeat (by omega)  (fun hbt => ?_) (fun hbt => ?_)
          · skip
            refine wp_if_eq (t := 31) d_TC_on_25 (by decide) (fun c_25 => (absurd c_25 (by decide))) (fun c_25 => ?_)
            refine wp_bipush (v := (-2)) d_TC_on_28 (by decide) ?_
            refine wp_ireturn d_TC_on_30 rfl rfl ?_
            first
              | exact kb ⟨Int32.not_lt.mp c_1, c_6⟩ (fun z => absurd z.1.1 (Int32.not_le.mpr c_12))
              | exact kb ⟨Int32.not_lt.mp c_1, c_6⟩ (fun z => absurd z.1.2 (Int32.not_le.mpr c_18))
              | exact kb ⟨Int32.not_lt.mp c_1, c_6⟩ (fun z => hbt z.2)
          · skip
            have hx : 0 ≤ x ∧ x ≤ 30 := ⟨Int32.not_lt.mp c_12, Int32.not_lt.mp c_18⟩
            obtain ⟨nn, hn30, rfl⟩ := nI_of2 (n := 30) rfl (Int32.not_lt.mpr hx.1) hx.2
            refine wp_if_eq (t := 31) d_TC_on_25 (by decide) (fun c_25 => ?_) (fun c_25 => (absurd c_25 (by decide)))
            refine wp_aload_n d_TC_on_31 rfl rfl rfl ?_
            refine gC_2 gf_TC_38_0 d_TC_on_32 ?_
            refine wp_aload_n d_TC_on_35 rfl rfl rfl ?_
            refine gC_0 gf_TC_24_0 d_TC_on_36 ?_
            refine wp_callV (r := (R_2, T_2, 6)) (M' := m_Tr_startFrom) (as := [_]) (D' := D - 1) (C1 := 0) (C2 := 0) (S1 := 0) (S2 := 0) d_TC_on_39 rfl w_704 w_705 w_706 tt_23 k_Tr_startFrom (Nat.le_of_ble_eq_true rfl) rfl (Nat.le_of_ble_eq_true rfl) (by omega) rfl rfl ?_
            refine c_st (by omega) hR hst (fun K1 hs hj2 hk2 => ?_)
            refine wp_aload_n d_TC_on_42 rfl rfl rfl ?_
            refine gC_2 gf_TC_38_0 d_TC_on_43 ?_
            refine wp_iload_n d_TC_on_46 rfl rfl ?_
            refine wp_iload_n d_TC_on_47 rfl rfl ?_
            refine wp_callV (r := (R_2, T_2, 6)) (M' := m_Tr_throwTubes) (as := [_, _]) (D' := D - 1) (C1 := 0) (C2 := 0) (S1 := 0) (S2 := 0) d_TC_on_48 rfl w_712 w_713 w_714 tt_23 k_Tr_throwTubes (Nat.le_of_ble_eq_true rfl) rfl (Nat.le_of_ble_eq_true rfl) (by omega) rfl rfl ?_
            refine c_tt (by omega) hR hs (by omega) (by omega) (fun K2 r2 hs2 hR2 m1 m2 m3 m4 => ?_)
            refine wp_iload_n d_TC_on_51 rfl rfl ?_
            refine wp_if_ne (t := 63) d_TC_on_52 (by decide) (fun c_52 => ?_) (fun c_52 => ?_)
            · skip
              refine wp_iload_n d_TC_on_63 rfl rfl ?_
              refine wp_iconst (v := 1) d_TC_on_64 rfl ?_
              refine wp_icmp_ne (t := 76) d_TC_on_65 (by decide) (fun c_65 => ?_) (fun c_65 => ?_)
              · skip
                refine wp_aload_n d_TC_on_76 rfl rfl rfl ?_
                refine gC_2 gf_TC_38_0 d_TC_on_77 ?_
                refine wp_callV (r := (R_2, T_2, 6)) (M' := m_Tr_clumsiest) (as := []) (D' := D - 1) (C1 := 0) (C2 := 0) (S1 := 0) (S2 := 0) d_TC_on_80 rfl w_725 w_726 w_727 tt_23 k_Tr_clumsiest (Nat.le_of_ble_eq_true rfl) rfl (Nat.le_of_ble_eq_true rfl) (by omega) rfl rfl ?_
                refine c_Tr_clumsiest (by omega) ?_
                refine wp_istore (ls' := [_, _, _, _, _]) d_TC_on_83 (by decide) rfl ?_
                have hclu : ¬ (sp_clu (K2.2.1 4 2) 6 0 (-5) 0) < 0 → vp_in (sp_clu (K2.2.1 4 2) 6 0 (-5) 0) 6 := fun z => sp_clu_in 6 0 _ _ (by decide) (Or.inl rfl) z
                refine wp_iload_n d_TC_on_85 rfl rfl ?_
                refine wp_iconst (v := 2) d_TC_on_86 rfl ?_
                refine wp_icmp_ne (t := 93) d_TC_on_87 (by decide) (fun c_87 => ?_) (fun c_87 => ?_)
                · skip
                  refine wp_iload d_TC_on_93 rfl ?_
                  refine wp_if_ge (t := 102) d_TC_on_95 (by decide) (fun c_95 => ?_) (fun c_95 => ?_)
                  · skip
                    refine wp_aload_n d_TC_on_102 rfl rfl rfl ?_
                    refine gC_2 gf_TC_38_0 d_TC_on_103 ?_
                    refine gR_2 gf_TC_199_2 d_TC_on_106 ?_
                    refine wp_iload d_TC_on_109 rfl ?_
                    refine lA_40 d_TC_on_111 (hclu (Int32.not_lt.mpr c_95)) ?_
                    refine wp_ireturn d_TC_on_112 rfl rfl ?_
                    have k2 := kk ⟨Int32.not_lt.mp c_1, c_6⟩ nn hn30 rfl hbt K2 r2 hs2.1 hR2 (K2.2.1 4 2) m3
                    rw [if_neg c_52, if_neg c_65, if_neg c_87] at k2
                    first
                      | (rw [if_neg c_95] at k2; exact k2)
                      | (rw [if_neg (Int32.not_lt.mpr c_95)] at k2; exact k2)
                  · skip
                    refine wp_iconst (v := 0) d_TC_on_98 rfl ?_
                    refine wp_goto (t := 112) d_TC_on_99 (by decide) ?_
                    refine wp_ireturn d_TC_on_112 rfl rfl ?_
                    have k2 := kk ⟨Int32.not_lt.mp c_1, c_6⟩ nn hn30 rfl hbt K2 r2 hs2.1 hR2 (K2.2.1 4 2) m3
                    rw [if_neg c_52, if_neg c_65, if_neg c_87] at k2
                    first
                      | (rw [if_pos (Int32.not_le.mp c_95)] at k2; exact k2)
                      | (rw [if_pos c_95] at k2; exact k2)
                · skip
                  refine wp_iload d_TC_on_90 rfl ?_
                  refine wp_ireturn d_TC_on_92 rfl rfl ?_
                  have k2 := kk ⟨Int32.not_lt.mp c_1, c_6⟩ nn hn30 rfl hbt K2 r2 hs2.1 hR2 (K2.2.1 4 2) m3
                  rw [if_neg c_52, if_neg c_65, if_pos c_87] at k2
                  exact k2
              · skip
                refine wp_aload_n d_TC_on_68 rfl rfl rfl ?_
                refine gC_2 gf_TC_38_0 d_TC_on_69 ?_
                refine gR_4 gf_TC_193_2 d_TC_on_72 ?_
                refine wp_ireturn d_TC_on_75 rfl rfl ?_
                have k2 := kk ⟨Int32.not_lt.mp c_1, c_6⟩ nn hn30 rfl hbt K2 r2 hs2.1 hR2 (K2.2.1 4 2) m3
                rw [if_neg c_52, if_pos c_65, ← m2] at k2
                exact k2
            · skip
              refine wp_aload_n d_TC_on_55 rfl rfl rfl ?_
              refine gC_2 gf_TC_38_0 d_TC_on_56 ?_
              refine gR_3 gf_TC_192_2 d_TC_on_59 ?_
              refine wp_ireturn d_TC_on_62 rfl rfl ?_
              have k2 := kk ⟨Int32.not_lt.mp c_1, c_6⟩ nn hn30 rfl hbt K2 r2 hs2.1 hR2 (K2.2.1 4 2) m3
              rw [if_pos c_52, ← m1] at k2
              exact k2
    · skip
      refine wp_iconst (v := (-1)) d_TC_on_9 rfl ?_
      refine wp_ireturn d_TC_on_10 rfl rfl ?_
      first
        | exact kn (fun z => absurd z.1 (Int32.not_le.mpr c_1))
        | exact kn (fun z => c_6 z.2)
end TDD
