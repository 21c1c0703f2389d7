section TDG
variable {G : px_G} {D : Nat} {K K1 : tc_K} {MZ h : px_H} {r r1 : tc_r} {Q : Option Value → px_H → Prop} {mn : tc_mn} {sc : tc_sc} {B : Nat} {S : sp_St} {t0 : Int32} {hl fr : Nat → Int32}
set_option maxRecDepth 4000 in
theorem l_TC_looked_33 {n nb : Nat} {kd vd : Nat → Int32} {ln : Nat → Nat} {cl : List sp_Cl} {bt many : Int32} {tb up : Nat → Int32} (h13 : K1.1 0 13 = nI nb) (hnb : nb ≤ 8) (hbk : ∀ i, i < nb → ∃ t u, t < 20 ∧ u ≤ 1 ∧ K1.2.1 0 6 i = nI (2 * t + u) ∧ tb i = nI t ∧ up i = nI u) (m4 : fl_ok 20 (sp_ups (kd, vd, K.2.1 0 3, ln, n, cl) (K.1 0 9) (K.2.1 0 1) (K.2.1 0 2) 20 bt 0 0) (K1.1 4 5) many) : ∀ (q i : Nat), i + q = nb → Q (some (.int (sp_lk (sp_ups (kd, vd, K.2.1 0 3, ln, n, cl) (K.1 0 9) (K.2.1 0 1) (K.2.1 0 2) 20 bt 0 0) tb up q i))) (HT K1 MZ r1) → px_W G D 0 0 m_TC_looked 33 [some (.ref 0), some (.int bt), some (.int (nI i)), none, none, none] [] (HT K1 MZ r1) Q := by
  intro q
  induction q with
  | zero =>
    intro i hiq k
    refine wp_iload_n d_TC_looked_33 rfl rfl ?_
    refine wp_aload_n d_TC_looked_34 rfl rfl rfl ?_
    refine gC_0 gf_TC_24_0 d_TC_looked_35 ?_
    refine gK_13 (s := 0) (by decide) gf_TC_261_1 d_TC_looked_38 ?_
    rw [h13]
    refine wp_icmp_ge (t := 114) d_TC_looked_41 (by decide) (fun c_41 => ?_) (fun c_41 => absurd (nI_le (by omega) (by omega)) c_41)
    refine wp_bipush (v := (-5)) d_TC_looked_114 (by decide) ?_
    refine wp_ireturn d_TC_looked_116 rfl rfl ?_
    exact k
  | succ q ih =>
    intro i hiq k
    refine wp_iload_n d_TC_looked_33 rfl rfl ?_
    refine wp_aload_n d_TC_looked_34 rfl rfl rfl ?_
    refine gC_0 gf_TC_24_0 d_TC_looked_35 ?_
    refine gK_13 (s := 0) (by decide) gf_TC_261_1 d_TC_looked_38 ?_
    rw [h13]
    refine wp_icmp_ge (t := 114) d_TC_looked_41 (by decide) (fun c_41 => absurd c_41 (nI_ge (by omega) (by omega))) (fun c_41 => ?_)
    obtain ⟨t, u, ht, hu, hb6, htb, hup⟩ := hbk i (by omega)
    have hfb := fl_bit m4 ht
    refine wp_aload_n d_TC_looked_44 rfl rfl rfl ?_
    refine gC_0 gf_TC_24_0 d_TC_looked_45 ?_
    refine gK_6 (s := 0) (by decide) gf_TC_264_1 d_TC_looked_48 ?_
    refine wp_iload_n d_TC_looked_51 rfl rfl ?_
    refine lK_6 (s := 0) (by decide) d_TC_looked_52 (vp_in_nI (by omega) (by decide)) ?_
    rw [nI_clamp (by omega), hb6]
    refine wp_iconst (v := 2) d_TC_looked_53 rfl ?_
    refine wp_idiv d_TC_looked_54 (by decide) ?_
    rw [show nI (2 * t + u) / 2 = nI t from (show nI (2 * t + u) / 2 = nI ((2 * t + u) / 2) from mo_div 2 (by omega) (by decide) (by decide)).trans (congrArg nI (by omega))]
    refine wp_istore_n (ls' := [_, _, _, _, _, _]) d_TC_looked_55 rfl (by decide) rfl ?_
    refine wp_aload_n d_TC_looked_56 rfl rfl rfl ?_
    refine gC_0 gf_TC_24_0 d_TC_looked_57 ?_
    refine gK_6 (s := 0) (by decide) gf_TC_264_1 d_TC_looked_60 ?_
    refine wp_iload_n d_TC_looked_63 rfl rfl ?_
    refine lK_6 (s := 0) (by decide) d_TC_looked_64 (vp_in_nI (by omega) (by decide)) ?_
    rw [nI_clamp (by omega), hb6]
    refine wp_iconst (v := 2) d_TC_looked_65 rfl ?_
    refine wp_irem d_TC_looked_66 (by decide) ?_
    rw [show nI (2 * t + u) - nI (2 * t + u) / 2 * 2 = nI u from by rw [show nI (2 * t + u) - nI (2 * t + u) / 2 * 2 = nI ((2 * t + u) % 2) from pk_rem (by omega) (by decide) (by decide)]; exact congrArg nI (by omega)]
    refine wp_iconst (v := 1) d_TC_looked_67 rfl ?_
    refine wp_icmp_ne (t := 75) d_TC_looked_68 (by decide) (fun c_68 => ?_) (fun c_68 => ?_)
    · skip
      refine wp_iconst (v := 0) d_TC_looked_75 rfl ?_
      refine wp_istore (ls' := [_, _, _, _, _, _]) d_TC_looked_76 (by decide) rfl ?_
      refine wp_aload_n d_TC_looked_78 rfl rfl rfl ?_
      refine gC_2 gf_TC_38_0 d_TC_looked_79 ?_
      refine gR_5 gf_TC_229_2 d_TC_looked_82 ?_
      refine wp_iload_n d_TC_looked_85 rfl rfl ?_
      refine wp_ishr d_TC_looked_86 ?_
      refine wp_iconst (v := 1) d_TC_looked_87 rfl ?_
      refine wp_iand d_TC_looked_88 ?_
      refine wp_if_ne (t := 96) d_TC_looked_89 (by decide) (fun c_89 => ?_) (fun c_89 => ?_)
      · skip
        refine wp_iconst (v := 0) d_TC_looked_96 rfl ?_
        refine wp_istore (ls' := [_, _, _, _, _, _]) d_TC_looked_97 (by decide) rfl ?_
        refine wp_iload d_TC_looked_99 rfl ?_
        refine wp_iload d_TC_looked_101 rfl ?_
        refine wp_icmp_eq (t := 108) d_TC_looked_103 (by decide) (fun c_103 => ?_) (fun c_103 => (absurd c_103 (by decide)))
        refine wp_iinc (v := _ + 1) (ls' := [_, _, _, _, _, _]) d_TC_looked_108 (by decide) rfl rfl rfl ?_
        refine wp_goto (t := 33) d_TC_looked_111 (by decide) ?_
        have hlk : sp_lk (sp_ups (kd, vd, K.2.1 0 3, ln, n, cl) (K.1 0 9) (K.2.1 0 1) (K.2.1 0 2) 20 bt 0 0) tb up (q + 1) i = if bI (decide (((sp_ups (kd, vd, K.2.1 0 3, ln, n, cl) (K.1 0 9) (K.2.1 0 1) (K.2.1 0 2) 20 bt 0 0) >>> (tb i &&& 31)) &&& 1 = 1)) = up i then sp_lk (sp_ups (kd, vd, K.2.1 0 3, ln, n, cl) (K.1 0 9) (K.2.1 0 1) (K.2.1 0 2) 20 bt 0 0) tb up q (i + 1) else nI i := rfl
        rw [hlk, htb, hup] at k
        have hu01 : u = 0 ∨ u = 1 := by omega
        have hc1 : ¬ u = 1 → u = 0 := fun z => by omega
        have hu1 : nI u = 1 → u = 1 := fun z => (nI_eq (b := 1) (by omega) (by decide)).mp z
        have eu : u = 0 := hc1 (fun z => c_68 (by rw [z]; rfl))
        rw [decide_eq_false (fun z => c_89 (hfb.mpr z))] at k
        rw [if_pos (by rw [eu]; rfl)] at k
        rw [show nI i + 1 = nI (i + 1) from nI_1 i]
        refine wp_less (ls' := [some (.ref 0), some (.int bt), some (.int (nI (i + 1))), none, none, none]) ⟨rfl, rfl, rfl, trivial⟩ ?_
        exact ih (i + 1) (by omega) k
      · skip
        refine wp_iconst (v := 1) d_TC_looked_92 rfl ?_
        refine wp_goto (t := 97) d_TC_looked_93 (by decide) ?_
        refine wp_istore (ls' := [_, _, _, _, _, _]) d_TC_looked_97 (by decide) rfl ?_
        refine wp_iload d_TC_looked_99 rfl ?_
        refine wp_iload d_TC_looked_101 rfl ?_
        refine wp_icmp_eq (t := 108) d_TC_looked_103 (by decide) (fun c_103 => (absurd c_103 (by decide))) (fun c_103 => ?_)
        refine wp_iload_n d_TC_looked_106 rfl rfl ?_
        refine wp_ireturn d_TC_looked_107 rfl rfl ?_
        have hlk : sp_lk (sp_ups (kd, vd, K.2.1 0 3, ln, n, cl) (K.1 0 9) (K.2.1 0 1) (K.2.1 0 2) 20 bt 0 0) tb up (q + 1) i = if bI (decide (((sp_ups (kd, vd, K.2.1 0 3, ln, n, cl) (K.1 0 9) (K.2.1 0 1) (K.2.1 0 2) 20 bt 0 0) >>> (tb i &&& 31)) &&& 1 = 1)) = up i then sp_lk (sp_ups (kd, vd, K.2.1 0 3, ln, n, cl) (K.1 0 9) (K.2.1 0 1) (K.2.1 0 2) 20 bt 0 0) tb up q (i + 1) else nI i := rfl
        rw [hlk, htb, hup] at k
        have hu01 : u = 0 ∨ u = 1 := by omega
        have hc1 : ¬ u = 1 → u = 0 := fun z => by omega
        have hu1 : nI u = 1 → u = 1 := fun z => (nI_eq (b := 1) (by omega) (by decide)).mp z
        have eu : u = 0 := hc1 (fun z => c_68 (by rw [z]; rfl))
        rw [decide_eq_true (hfb.mp c_89)] at k
        rw [if_neg (by rw [eu]; decide)] at k
        exact k
    · skip
      refine wp_iconst (v := 1) d_TC_looked_71 rfl ?_
      refine wp_goto (t := 76) d_TC_looked_72 (by decide) ?_
      refine wp_istore (ls' := [_, _, _, _, _, _]) d_TC_looked_76 (by decide) rfl ?_
      refine wp_aload_n d_TC_looked_78 rfl rfl rfl ?_
      refine gC_2 gf_TC_38_0 d_TC_looked_79 ?_
      refine gR_5 gf_TC_229_2 d_TC_looked_82 ?_
      refine wp_iload_n d_TC_looked_85 rfl rfl ?_
      refine wp_ishr d_TC_looked_86 ?_
      refine wp_iconst (v := 1) d_TC_looked_87 rfl ?_
      refine wp_iand d_TC_looked_88 ?_
      refine wp_if_ne (t := 96) d_TC_looked_89 (by decide) (fun c_89 => ?_) (fun c_89 => ?_)
      · skip
        refine wp_iconst (v := 0) d_TC_looked_96 rfl ?_
        refine wp_istore (ls' := [_, _, _, _, _, _]) d_TC_looked_97 (by decide) rfl ?_
        refine wp_iload d_TC_looked_99 rfl ?_
        refine wp_iload d_TC_looked_101 rfl ?_
        refine wp_icmp_eq (t := 108) d_TC_looked_103 (by decide) (fun c_103 => (absurd c_103 (by decide))) (fun c_103 => ?_)
        refine wp_iload_n d_TC_looked_106 rfl rfl ?_
        refine wp_ireturn d_TC_looked_107 rfl rfl ?_
        have hlk : sp_lk (sp_ups (kd, vd, K.2.1 0 3, ln, n, cl) (K.1 0 9) (K.2.1 0 1) (K.2.1 0 2) 20 bt 0 0) tb up (q + 1) i = if bI (decide (((sp_ups (kd, vd, K.2.1 0 3, ln, n, cl) (K.1 0 9) (K.2.1 0 1) (K.2.1 0 2) 20 bt 0 0) >>> (tb i &&& 31)) &&& 1 = 1)) = up i then sp_lk (sp_ups (kd, vd, K.2.1 0 3, ln, n, cl) (K.1 0 9) (K.2.1 0 1) (K.2.1 0 2) 20 bt 0 0) tb up q (i + 1) else nI i := rfl
        rw [hlk, htb, hup] at k
        have hu01 : u = 0 ∨ u = 1 := by omega
        have hc1 : ¬ u = 1 → u = 0 := fun z => by omega
        have hu1 : nI u = 1 → u = 1 := fun z => (nI_eq (b := 1) (by omega) (by decide)).mp z
        have eu : u = 1 := hu1 c_68
        rw [decide_eq_false (fun z => c_89 (hfb.mpr z))] at k
        rw [if_neg (by rw [eu]; decide)] at k
        exact k
      · skip
        refine wp_iconst (v := 1) d_TC_looked_92 rfl ?_
        refine wp_goto (t := 97) d_TC_looked_93 (by decide) ?_
        refine wp_istore (ls' := [_, _, _, _, _, _]) d_TC_looked_97 (by decide) rfl ?_
        refine wp_iload d_TC_looked_99 rfl ?_
        refine wp_iload d_TC_looked_101 rfl ?_
        refine wp_icmp_eq (t := 108) d_TC_looked_103 (by decide) (fun c_103 => ?_) (fun c_103 => (absurd c_103 (by decide)))
        refine wp_iinc (v := _ + 1) (ls' := [_, _, _, _, _, _]) d_TC_looked_108 (by decide) rfl rfl rfl ?_
        refine wp_goto (t := 33) d_TC_looked_111 (by decide) ?_
        have hlk : sp_lk (sp_ups (kd, vd, K.2.1 0 3, ln, n, cl) (K.1 0 9) (K.2.1 0 1) (K.2.1 0 2) 20 bt 0 0) tb up (q + 1) i = if bI (decide (((sp_ups (kd, vd, K.2.1 0 3, ln, n, cl) (K.1 0 9) (K.2.1 0 1) (K.2.1 0 2) 20 bt 0 0) >>> (tb i &&& 31)) &&& 1 = 1)) = up i then sp_lk (sp_ups (kd, vd, K.2.1 0 3, ln, n, cl) (K.1 0 9) (K.2.1 0 1) (K.2.1 0 2) 20 bt 0 0) tb up q (i + 1) else nI i := rfl
        rw [hlk, htb, hup] at k
        have hu01 : u = 0 ∨ u = 1 := by omega
        have hc1 : ¬ u = 1 → u = 0 := fun z => by omega
        have hu1 : nI u = 1 → u = 1 := fun z => (nI_eq (b := 1) (by omega) (by decide)).mp z
        have eu : u = 1 := hu1 c_68
        rw [decide_eq_true (hfb.mp c_89)] at k
        rw [if_pos (by rw [eu]; rfl)] at k
        rw [show nI i + 1 = nI (i + 1) from nI_1 i]
        refine wp_less (ls' := [some (.ref 0), some (.int bt), some (.int (nI (i + 1))), none, none, none]) ⟨rfl, rfl, rfl, trivial⟩ ?_
        exact ih (i + 1) (by omega) k
set_option maxRecDepth 4000 in
theorem c_TC_looked {n : Nat} {kd vd : Nat → Int32} {ln : Nat → Nat} {cl : List sp_Cl} {nb : Nat} {bt : Int32} {tb up : Nat → Int32} (hD : 10 ≤ D) (hR : tc_R mn sc MZ r) (hst : st_ok mn sc K 0 n B kd vd ln cl) (hB : B ≤ 20000) (h13 : K.1 0 13 = nI nb) (hnb : nb ≤ 8) (hbk : ∀ i, i < nb → ∃ t u, t < 20 ∧ u ≤ 1 ∧ K.2.1 0 6 i = nI (2 * t + u) ∧ tb i = nI t ∧ up i = nI u) (kb : ¬ (1 ≤ bt ∧ bt ≤ 99) → Q (some (.int (-2))) (HT K MZ r)) (kk : (1 ≤ bt ∧ bt ≤ 99) → ∀ K2 (r2 : tc_r), tk [2, 3, 4] K K2 → tc_R mn sc MZ r2 → Q (some (.int (sp_lk (sp_ups (kd, vd, K.2.1 0 3, ln, n, cl) (K.1 0 9) (K.2.1 0 1) (K.2.1 0 2) 20 bt 0 0) tb up nb 0))) (HT K2 MZ r2)) : px_W G D 0 0 m_TC_looked 0 (px_ent 6 [.ref 0, .int bt]) [] (HT K MZ r) Q := by
  show px_W _ _ _ _ _ _ [some (.ref 0), some (.int bt), none, none, none, none] [] _ _
  refine wp_iload_n d_TC_looked_0 rfl rfl ?_
  refine wp_callS (M' := m_TC_isNoBeat) (as := [_]) (D' := D - 1) (C1 := 0) (C2 := 0) (S1 := 0) (S2 := 0) d_TC_looked_1 w_669 w_670 k_TC_isNoBeat (Nat.le_of_ble_eq_true rfl) rfl (Nat.le_of_ble_eq_true rfl) (by omega) rfl rfl ?_
  refine c_TC_isNoBeat (by omega)  (fun hbt => ?_) (fun hbt => ?_)
  · skip
    refine wp_if_eq (t := 10) d_TC_looked_4 (by decide) (fun c_4 => (absurd c_4 (by decide))) (fun c_4 => ?_)
    refine wp_bipush (v := (-2)) d_TC_looked_7 (by decide) ?_
    refine wp_ireturn d_TC_looked_9 rfl rfl ?_
    exact kb hbt
  · skip
    refine wp_if_eq (t := 10) d_TC_looked_4 (by decide) (fun c_4 => ?_) (fun c_4 => (absurd c_4 (by decide)))
    refine wp_aload_n d_TC_looked_10 rfl rfl rfl ?_
    refine gC_2 gf_TC_38_0 d_TC_looked_11 ?_
    refine wp_aload_n d_TC_looked_14 rfl rfl rfl ?_
    refine gC_0 gf_TC_24_0 d_TC_looked_15 ?_
    refine wp_callV (r := (R_2, T_2, 6)) (M' := m_Tr_startFrom) (as := [_]) (D' := D - 1) (C1 := 0) (C2 := 0) (S1 := 0) (S2 := 0) d_TC_looked_18 rfl w_704 w_705 w_706 tt_23 k_Tr_startFrom (Nat.le_of_ble_eq_true rfl) rfl (Nat.le_of_ble_eq_true rfl) (by omega) rfl rfl ?_
    refine c_st (by omega) hR hst (fun K1 hs hj2 hk2 => ?_)
    refine wp_aload_n d_TC_looked_21 rfl rfl rfl ?_
    refine gC_2 gf_TC_38_0 d_TC_looked_22 ?_
    refine wp_bipush (v := (nI 20)) d_TC_looked_25 (by decide) ?_
    refine wp_iload_n d_TC_looked_27 rfl rfl ?_
    refine wp_callV (r := (R_2, T_2, 6)) (M' := m_Tr_throwTubes) (as := [_, _]) (D' := D - 1) (C1 := 0) (C2 := 0) (S1 := 0) (S2 := 0) d_TC_looked_28 rfl w_712 w_713 w_714 tt_23 k_Tr_throwTubes (Nat.le_of_ble_eq_true rfl) rfl (Nat.le_of_ble_eq_true rfl) (by omega) rfl rfl ?_
    refine c_tt (by omega) hR hs (by omega) (by decide) (fun K2 r2 hs2 hR2 m1 m2 m3 m4 => ?_)
    refine wp_iconst (v := (nI 0)) d_TC_looked_31 rfl ?_
    refine wp_istore_n (ls' := [_, _, _, _, _, _]) d_TC_looked_32 rfl (by decide) rfl ?_
    obtain ⟨t1, t2, t3, t4⟩ := hs2.1.1 0 (by decide)
    exact l_TC_looked_33 (n := n) (by rw [t1]; exact h13) hnb (by rw [t2]; exact hbk) m4 nb 0 (Nat.zero_add nb) (kk hbt K2 r2 hs2.1 hR2)
theorem strt.rm {n a : Nat} {kd vd rows : Nat → Int32} {ln : Nat → Nat} {cl : List sp_Cl} (h : strt mn sc K K1 B (kd, vd, rows, ln, n, cl) t0 hl fr) (ha : a < n) : strt mn sc K (ks K1 2 (upd (K1.1 2) 8 (nI (n - 1))) (va_up (K1.2.1 2) 4 (va_cpy (K1.2.1 2 4) (K1.2.1 2 4) (a + 1) a (n - a - 1))) (K1.2.2.1 2) (K1.2.2.2.1 2)) B (kd, vd, rows, sp_sh ln a (n - 1), n - 1, cl) t0 hl fr := by
  obtain ⟨h1, ⟨⟨w1, w2, w3⟩, g2, g3, g4, g5, g6⟩, h3, h4, h5, h6⟩ := h
  refine ⟨h1.s 2 (by decide) _ _ _ _, ⟨⟨Nat.le_trans (Nat.sub_le n 1) w1, rfl, fun p hp => ?_⟩, g2, g3, g4, g5, g6⟩, h3, h4, h5, h6⟩
  have hp : p < n - 1 := hp
  have w1 : n ≤ 6 := w1
  have w3 : ∀ p, p < n → ln p < 6 ∧ K1.2.1 2 4 p = nI (ln p) ∧ ∃ pm k v, K1.2.2.1 2 (ln p) = some pm ∧ mn pm = some (k, ln p, v) ∧ kd (ln p) = nI k ∧ vd (ln p) = nI v := w3
  show sp_sh ln a (n - 1) p < 6 ∧ va_cpy (K1.2.1 2 4) (K1.2.1 2 4) (a + 1) a (n - a - 1) p = nI (sp_sh ln a (n - 1) p) ∧ ∃ pm k v, K1.2.2.1 2 (sp_sh ln a (n - 1) p) = some pm ∧ mn pm = some (k, sp_sh ln a (n - 1) p, v) ∧ kd (sp_sh ln a (n - 1) p) = nI k ∧ vd (sp_sh ln a (n - 1) p) = nI v
  unfold sp_sh va_cpy
  by_cases e : a ≤ p ∧ p < n - 1
  · rw [if_pos e, if_pos (show a ≤ p ∧ p < a + (n - a - 1) by omega), show a + 1 + (p - a) = p + 1 by omega]
    exact w3 (p + 1) (by omega)
  · rw [if_neg e, if_neg (show ¬ (a ≤ p ∧ p < a + (n - a - 1)) by omega)]
    exact w3 p (by omega)
theorem strt.sw {n a c : Nat} {kd vd rows : Nat → Int32} {ln : Nat → Nat} {cl : List sp_Cl} (h : strt mn sc K K1 B (kd, vd, rows, ln, n, cl) t0 hl fr) (ha : a < n) (hc : c < n) : strt mn sc K (ks K1 2 (K1.1 2) (va_up (K1.2.1 2) 4 (sp_sw (K1.2.1 2 4) a c)) (K1.2.2.1 2) (K1.2.2.2.1 2)) B (kd, vd, rows, sp_sw ln a c, n, cl) t0 hl fr := by
  obtain ⟨h1, ⟨⟨w1, w2, w3⟩, g2, g3, g4, g5, g6⟩, h3, h4, h5, h6⟩ := h
  refine ⟨h1.s 2 (by decide) _ _ _ _, ⟨⟨w1, w2, fun p hp => ?_⟩, g2, g3, g4, g5, g6⟩, h3, h4, h5, h6⟩
  have hp : p < n := hp
  have w3 : ∀ p, p < n → ln p < 6 ∧ K1.2.1 2 4 p = nI (ln p) ∧ ∃ pm k v, K1.2.2.1 2 (ln p) = some pm ∧ mn pm = some (k, ln p, v) ∧ kd (ln p) = nI k ∧ vd (ln p) = nI v := w3
  show sp_sw ln a c p < 6 ∧ sp_sw (K1.2.1 2 4) a c p = nI (sp_sw ln a c p) ∧ ∃ pm k v, K1.2.2.1 2 (sp_sw ln a c p) = some pm ∧ mn pm = some (k, sp_sw ln a c p, v) ∧ kd (sp_sw ln a c p) = nI k ∧ vd (sp_sw ln a c p) = nI v
  unfold sp_sw
  by_cases e : p = c
  · rw [if_pos e, if_pos e]; exact w3 a ha
  · rw [if_neg e, if_neg e]
    by_cases e2 : p = a
    · rw [if_pos e2, if_pos e2]; exact w3 c hc
    · rw [if_neg e2, if_neg e2]; exact w3 p hp
set_option maxRecDepth 4000 in
theorem c_TC_without {n : Nat} {kd vd : Nat → Int32} {ln : Nat → Nat} {cl : List sp_Cl} {m x bt : Int32} (hD : 10 ≤ D) (hR : tc_R mn sc MZ r) (hst : st_ok mn sc K 0 n B kd vd ln cl) (hB : B ≤ 20000) (h7 : K.1 0 7 = nI n) (hpl : ∀ mm, mm < n → ∃ a, a < n ∧ K.2.1 0 4 a = nI mm ∧ ∀ q, q < a → K.2.1 0 4 q ≠ nI mm) (kn : ¬ (0 ≤ m ∧ m < nI n) → Q (some (.int (-1))) (HT K MZ r)) (kb : ∀ mm, mm < n → m = nI mm → ¬ ((1 ≤ x ∧ x ≤ 30) ∧ (1 ≤ bt ∧ bt ≤ 99)) → Q (some (.int (-2))) (HT K MZ r)) (kk : ∀ mm a, mm < n → m = nI mm → a < n → K.2.1 0 4 a = nI mm → (∀ q, q < a → K.2.1 0 4 q ≠ nI mm) → ((1 ≤ x ∧ x ≤ 30) ∧ (1 ≤ bt ∧ bt ≤ 99)) → ∀ nn, nn ≤ 30 → x = nI nn → ∀ K2 (r2 : tc_r), tk [2, 3, 4] K K2 → tc_R mn sc MZ r2 → Q (some (.int (sp_many (kd, vd, K.2.1 0 3, sp_sh ln a (n - 1), n - 1, cl) (K.1 0 9) (K.2.1 0 1) (K.2.1 0 2) nn bt 0 0))) (HT K2 MZ r2)) : px_W G D 0 0 m_TC_without 0 (px_ent 4 [.ref 0, .int m, .int x, .int bt]) [] (HT K MZ r) Q := by
  show px_W _ _ _ _ _ _ [some (.ref 0), some (.int m), some (.int x), some (.int bt)] [] _ _
  refine wp_aload_n d_TC_without_0 rfl rfl rfl ?_
  refine wp_iload_n d_TC_without_1 rfl rfl ?_
  refine wp_callV (r := (R_0, T_0, 11)) (M' := m_TC_isNoMan) (as := [_]) (D' := D - 1) (C1 := 0) (C2 := 0) (S1 := 0) (S2 := 0) d_TC_without_2 rfl w_407 w_409 w_0 tt_0 k_TC_isNoMan (Nat.le_of_ble_eq_true rfl) rfl (Nat.le_of_ble_eq_true rfl) (by omega) rfl rfl ?_
  refine c_TC_isNoMan (by omega) h7 (fun hm => ?_) (fun hm => ?_)
  · skip
    refine wp_if_eq (t := 10) d_TC_without_5 (by decide) (fun c_5 => (absurd c_5 (by decide))) (fun c_5 => ?_)
    refine wp_iconst (v := (-1)) d_TC_without_8 rfl ?_
    refine wp_ireturn d_TC_without_9 rfl rfl ?_
    exact kn hm
  · skip
    refine wp_if_eq (t := 10) d_TC_without_5 (by decide) (fun c_5 => ?_) (fun c_5 => (absurd c_5 (by decide)))
    obtain ⟨mm, hmn, rfl⟩ := (i_rng (by have := hst.1.1; omega)).mp hm
    obtain ⟨a, ha, he, hmin⟩ := hpl mm hmn
    refine wp_iload_n d_TC_without_10 rfl rfl ?_
    refine wp_callS (M' := m_TC_isNoCount) (as := [_]) (D' := D - 1) (C1 := 0) (C2 := 0) (S1 := 0) (S2 := 0) d_TC_without_11 w_770 w_771 k_TC_isNoCount (Nat.le_of_ble_eq_true rfl) rfl (Nat.le_of_ble_eq_true rfl) (by omega) rfl rfl ?_
    refine c_TC_isNoCount (by omega)  (fun hx => ?_) (fun hx => ?_)
    · skip
      refine wp_if_ne (t := 24) d_TC_without_14 (by decide) (fun c_14 => ?_) (fun c_14 => (absurd c_14 (by decide)))
      refine wp_bipush (v := (-2)) d_TC_without_24 (by decide) ?_
      refine wp_ireturn d_TC_without_26 rfl rfl ?_
      first
        | exact kb mm hmn rfl (fun z => hx z.1)
        | exact kb mm hmn rfl (fun z => hbt z.2)
    · skip
      refine wp_if_ne (t := 24) d_TC_without_14 (by decide) (fun c_14 => (absurd c_14 (by decide))) (fun c_14 => ?_)
      refine wp_iload_n d_TC_without_17 rfl rfl ?_
      refine wp_callS (M' := m_TC_isNoBeat) (as := [_]) (D' := D - 1) (C1 := 0) (C2 := 0) (S1 := 0) (S2 := 0) d_TC_without_18 w_669 w_670 k_TC_isNoBeat (Nat.le_of_ble_eq_true rfl) rfl (Nat.le_of_ble_eq_true rfl) (by omega) rfl rfl ?_
      refine c_TC_isNoBeat (by omega)  (fun hbt => ?_) (fun hbt => ?_)
      · skip
        refine wp_if_eq (t := 27) d_TC_without_21 (by decide) (fun c_21 => (absurd c_21 (by decide))) (fun c_21 => ?_)
        refine wp_bipush (v := (-2)) d_TC_without_24 (by decide) ?_
        refine wp_ireturn d_TC_without_26 rfl rfl ?_
        first
          | exact kb mm hmn rfl (fun z => hx z.1)
          | exact kb mm hmn rfl (fun z => hbt z.2)
      · skip
        obtain ⟨nn, hn30, rfl⟩ := sp_n1 (M := 30) (N := 30) rfl hx
        refine wp_if_eq (t := 27) d_TC_without_21 (by decide) (fun c_21 => ?_) (fun c_21 => (absurd c_21 (by decide)))
        refine wp_aload_n d_TC_without_27 rfl rfl rfl ?_
        refine gC_2 gf_TC_38_0 d_TC_without_28 ?_
        refine wp_aload_n d_TC_without_31 rfl rfl rfl ?_
        refine gC_0 gf_TC_24_0 d_TC_without_32 ?_
        refine wp_callV (r := (R_2, T_2, 6)) (M' := m_Tr_startFrom) (as := [_]) (D' := D - 1) (C1 := 0) (C2 := 0) (S1 := 0) (S2 := 0) d_TC_without_35 rfl w_704 w_705 w_706 tt_23 k_Tr_startFrom (Nat.le_of_ble_eq_true rfl) rfl (Nat.le_of_ble_eq_true rfl) (by omega) rfl rfl ?_
        refine c_st (by omega) hR hst (fun K1 hs hj2 hk2 => ?_)
        refine wp_aload_n d_TC_without_38 rfl rfl rfl ?_
        refine gC_2 gf_TC_38_0 d_TC_without_39 ?_
        refine gR_0 gf_TC_206_2 d_TC_without_42 ?_
        obtain ⟨t1, t2, t3, t4⟩ := hs.1.1 0 (by decide)
        have t0 := congrFun t1 8
        refine wp_aload_n d_TC_without_45 rfl rfl rfl ?_
        refine gC_0 gf_TC_24_0 d_TC_without_46 ?_
        refine wp_iload_n d_TC_without_49 rfl rfl ?_
        refine toS 0 ?_
        refine wp_callV (r := (R_1, T_1, 15)) (M' := m_Si_placeOf) (as := [_]) (D' := D - 1) (C1 := 0) (C2 := 0) (S1 := 0) (S2 := 0) d_TC_without_50 rfl w_434 w_435 w_436 (ts_0 (by decide)) k_Si_placeOf (Nat.le_of_ble_eq_true rfl) rfl (Nat.le_of_ble_eq_true rfl) (by omega) rfl rfl ?_
        refine c_Si_placeOf (by omega) (by decide) (t0.trans hst.1.2.1) hst.1.1 ha (by rw [t2]; exact he) (fun q hq => by rw [t2]; exact hmin q hq) ?_
        rw [ks_id]
        refine toS 2 ?_
        refine wp_callV (r := (R_1, T_1, 15)) (M' := m_Si_removeAt) (as := [_]) (D' := D - 1) (C1 := 0) (C2 := 0) (S1 := 0) (S2 := 0) d_TC_without_53 rfl w_501 w_502 w_503 (ts_0 (by decide)) k_Si_removeAt (Nat.le_of_ble_eq_true rfl) rfl (Nat.le_of_ble_eq_true rfl) (by omega) rfl rfl ?_
        refine c_Si_removeAt (by omega) (by decide) ((hj2 8 (by decide) (by decide)).trans hst.1.2.1) hst.1.1 ha ?_
        have hs3 := hs.rm ha
        rw [show (upd (K1.1 2) 8 (nI (n - 1))) = upd (K1.1 2) 8 (nI (n - 1)) from rfl]
        refine wp_aload_n d_TC_without_56 rfl rfl rfl ?_
        refine gC_2 gf_TC_38_0 d_TC_without_57 ?_
        refine wp_iload_n d_TC_without_60 rfl rfl ?_
        refine wp_iload_n d_TC_without_61 rfl rfl ?_
        refine wp_callV (r := (R_2, T_2, 6)) (M' := m_Tr_throwTubes) (as := [_, _]) (D' := D - 1) (C1 := 0) (C2 := 0) (S1 := 0) (S2 := 0) d_TC_without_62 rfl w_712 w_713 w_714 tt_23 k_Tr_throwTubes (Nat.le_of_ble_eq_true rfl) rfl (Nat.le_of_ble_eq_true rfl) (by omega) rfl rfl ?_
        refine c_tt (by omega) hR hs3 hB (by omega) (fun K2 r2 hs2 hR2 m1 m2 m3 m4 => ?_)
        refine wp_aload_n d_TC_without_65 rfl rfl rfl ?_
        refine gC_2 gf_TC_38_0 d_TC_without_66 ?_
        refine gR_3 gf_TC_192_2 d_TC_without_69 ?_
        refine wp_ireturn d_TC_without_72 rfl rfl ?_
        have k2 := kk mm a hmn rfl ha he hmin ⟨hx, hbt⟩ nn hn30 rfl K2 r2 hs2.1 hR2
        rw [← m1] at k2
        exact k2
set_option maxRecDepth 4000 in
theorem l_TC_change_70 {n : Nat} {kd vd : Nat → Int32} {ln : Nat → Nat} {cl : List sp_Cl} {nn a : Nat} {bt : Int32} (hD : 10 ≤ D) (hst : st_ok mn sc K 0 n B kd vd ln cl) (hB : B ≤ 20000) (hn30 : nn ≤ 30) (ha : a < n) : ∀ (q c : Nat) (mo pl : Int32) (K1 : tc_K) (r1 : tc_r), c + q = n → strt mn sc K K1 B (kd, vd, K.2.1 0 3, ln, n, cl) (K.1 0 9) (K.2.1 0 1) (K.2.1 0 2) → tc_R mn sc MZ r1 → (∀ K2 (r2 : tc_r), strt mn sc K K2 B (kd, vd, K.2.1 0 3, ln, n, cl) (K.1 0 9) (K.2.1 0 1) (K.2.1 0 2) → tc_R mn sc MZ r2 → px_W G D 0 0 m_TC_change 154 [some (.ref 0), some (.int (nI nn)), some (.int bt), some (.int (sp_ch1 (fun x y => sp_many (kd, vd, K.2.1 0 3, sp_sw ln x y, n, cl) (K.1 0 9) (K.2.1 0 1) (K.2.1 0 2) nn bt 0 0) a q c (mo, pl)).1), some (.int (sp_ch1 (fun x y => sp_many (kd, vd, K.2.1 0 3, sp_sw ln x y, n, cl) (K.1 0 9) (K.2.1 0 1) (K.2.1 0 2) nn bt 0 0) a q c (mo, pl)).2), some (.int (nI a)), some (.int (nI n))] [] (HT K2 MZ r2) Q) → px_W G D 0 0 m_TC_change 70 [some (.ref 0), some (.int (nI nn)), some (.int bt), some (.int mo), some (.int pl), some (.int (nI a)), some (.int (nI c))] [] (HT K1 MZ r1) Q := by
  intro q
  have hn6 := hst.1.1
  induction q with
  | zero =>
    intro c mo pl K1 r1 hcq hs hR1 kk
    have hcn : c = n := hcq
    subst hcn
    refine wp_iload d_TC_change_70 rfl ?_
    refine wp_aload_n d_TC_change_72 rfl rfl rfl ?_
    refine gC_0 gf_TC_24_0 d_TC_change_73 ?_
    refine gK_8 (s := 0) (by decide) gf_TC_131_1 d_TC_change_76 ?_
    rw [(hs.1.1 0 (by decide)).1, hst.1.2.1]
    refine wp_icmp_ge (t := 154) d_TC_change_79 (by decide) (fun c_79 => ?_) (fun c_79 => absurd (nI_le (by omega) (by omega)) c_79)
    exact kk K1 r1 hs hR1
  | succ q ih =>
    intro c mo pl K1 r1 hcq hs hR1 kk
    refine wp_iload d_TC_change_70 rfl ?_
    refine wp_aload_n d_TC_change_72 rfl rfl rfl ?_
    refine gC_0 gf_TC_24_0 d_TC_change_73 ?_
    refine gK_8 (s := 0) (by decide) gf_TC_131_1 d_TC_change_76 ?_
    rw [(hs.1.1 0 (by decide)).1, hst.1.2.1]
    refine wp_icmp_ge (t := 154) d_TC_change_79 (by decide) (fun c_79 => absurd c_79 (nI_ge (by omega) (by omega))) (fun c_79 => ?_)
    refine wp_aload_n d_TC_change_82 rfl rfl rfl ?_
    refine gC_2 gf_TC_38_0 d_TC_change_83 ?_
    refine gR_0 gf_TC_206_2 d_TC_change_86 ?_
    refine wp_iload d_TC_change_89 rfl ?_
    refine wp_iload d_TC_change_91 rfl ?_
    refine toS 2 ?_
    refine wp_callV (r := (R_1, T_1, 15)) (M' := m_Si_exchange) (as := [_, _]) (D' := D - 1) (C1 := 0) (C2 := 0) (S1 := 0) (S2 := 0) d_TC_change_93 rfl w_796 w_763 w_764 (ts_0 (by decide)) k_Si_exchange (Nat.le_of_ble_eq_true rfl) rfl (Nat.le_of_ble_eq_true rfl) (by omega) rfl rfl ?_
    refine c_Si_exchange (by omega) (by decide) (by omega) (by omega) ?_
    have hsw := hs.sw (a := a) (c := c) (by omega) (by omega)
    refine wp_aload_n d_TC_change_96 rfl rfl rfl ?_
    refine gC_2 gf_TC_38_0 d_TC_change_97 ?_
    refine wp_iload_n d_TC_change_100 rfl rfl ?_
    refine wp_iload_n d_TC_change_101 rfl rfl ?_
    refine wp_callV (r := (R_2, T_2, 6)) (M' := m_Tr_throwTubes) (as := [_, _]) (D' := D - 1) (C1 := 0) (C2 := 0) (S1 := 0) (S2 := 0) d_TC_change_102 rfl w_712 w_713 w_714 tt_23 k_Tr_throwTubes (Nat.le_of_ble_eq_true rfl) rfl (Nat.le_of_ble_eq_true rfl) (by omega) rfl rfl ?_
    refine c_tt (by omega) hR1 hsw (by omega) (by omega) (fun K2 r2 hs2 hR2 m1 m2 m3 m4 => ?_)
    refine wp_aload_n d_TC_change_105 rfl rfl rfl ?_
    refine gC_2 gf_TC_38_0 d_TC_change_106 ?_
    refine gR_0 gf_TC_206_2 d_TC_change_109 ?_
    refine wp_iload d_TC_change_112 rfl ?_
    refine wp_iload d_TC_change_114 rfl ?_
    refine toS 2 ?_
    refine wp_callV (r := (R_1, T_1, 15)) (M' := m_Si_exchange) (as := [_, _]) (D' := D - 1) (C1 := 0) (C2 := 0) (S1 := 0) (S2 := 0) d_TC_change_116 rfl w_796 w_763 w_764 (ts_0 (by decide)) k_Si_exchange (Nat.le_of_ble_eq_true rfl) rfl (Nat.le_of_ble_eq_true rfl) (by omega) rfl rfl ?_
    refine c_Si_exchange (by omega) (by decide) (by omega) (by omega) ?_
    have hsb := (hs2.sw (a := a) (c := c) (by omega) (by omega)).of (S2 := (kd, vd, K.2.1 0 3, ln, n, cl)) (by rw [sp_sw_sw]) rfl rfl
    refine wp_aload_n d_TC_change_119 rfl rfl rfl ?_
    refine gC_2 gf_TC_38_0 d_TC_change_120 ?_
    refine gR_3 gf_TC_192_2 d_TC_change_123 ?_
    rw [show (ks K2 2 (K2.1 2) (va_up (K2.2.1 2) 4 (sp_sw (K2.2.1 2 4) a c)) (K2.2.2.1 2) (K2.2.2.2.1 2)).1 4 3 = (sp_many (kd, vd, K.2.1 0 3, sp_sw ln a c, n, cl) (K.1 0 9) (K.2.1 0 1) (K.2.1 0 2) nn bt 0 0) from m1]
    refine wp_iload_n d_TC_change_126 rfl rfl ?_
    refine wp_icmp_le (t := 148) d_TC_change_127 (by decide) (fun c_127 => ?_) (fun c_127 => ?_)
    · skip
      refine wp_iinc (v := _ + 1) (ls' := [_, _, _, _, _, _, _]) d_TC_change_148 (by decide) rfl rfl rfl ?_
      refine wp_goto (t := 70) d_TC_change_151 (by decide) ?_
      rw [show nI c + 1 = nI (c + 1) from nI_1 c]
      have hch : sp_ch1 (fun x y => sp_many (kd, vd, K.2.1 0 3, sp_sw ln x y, n, cl) (K.1 0 9) (K.2.1 0 1) (K.2.1 0 2) nn bt 0 0) a (q + 1) c (mo, pl) = if (sp_many (kd, vd, K.2.1 0 3, sp_sw ln a c, n, cl) (K.1 0 9) (K.2.1 0 1) (K.2.1 0 2) nn bt 0 0) ≤ mo then sp_ch1 (fun x y => sp_many (kd, vd, K.2.1 0 3, sp_sw ln x y, n, cl) (K.1 0 9) (K.2.1 0 1) (K.2.1 0 2) nn bt 0 0) a q (c + 1) (mo, pl) else sp_ch1 (fun x y => sp_many (kd, vd, K.2.1 0 3, sp_sw ln x y, n, cl) (K.1 0 9) (K.2.1 0 1) (K.2.1 0 2) nn bt 0 0) a q (c + 1) ((sp_many (kd, vd, K.2.1 0 3, sp_sw ln a c, n, cl) (K.1 0 9) (K.2.1 0 1) (K.2.1 0 2) nn bt 0 0), nI (10 * a + c)) := rfl
      rw [hch] at kk
      first
        | (rw [if_pos c_127] at kk; exact ih (c + 1) _ _ _ r2 (by omega) hsb hR2 kk)
        | (rw [if_neg c_127] at kk; rw [show (10 : Int32) * nI a + nI c = nI (10 * a + c) from by rw [show (10 : Int32) * nI a = nI (10 * a) from pk_mul 10 a, nI_add]]; exact ih (c + 1) _ _ _ r2 (by omega) hsb hR2 kk)
    · skip
      refine wp_aload_n d_TC_change_130 rfl rfl rfl ?_
      refine gC_2 gf_TC_38_0 d_TC_change_131 ?_
      refine gR_3 gf_TC_192_2 d_TC_change_134 ?_
      rw [show (ks K2 2 (K2.1 2) (va_up (K2.2.1 2) 4 (sp_sw (K2.2.1 2 4) a c)) (K2.2.2.1 2) (K2.2.2.2.1 2)).1 4 3 = (sp_many (kd, vd, K.2.1 0 3, sp_sw ln a c, n, cl) (K.1 0 9) (K.2.1 0 1) (K.2.1 0 2) nn bt 0 0) from m1]
      refine wp_istore_n (ls' := [_, _, _, _, _, _, _]) d_TC_change_137 rfl (by decide) rfl ?_
      refine wp_bipush (v := 10) d_TC_change_138 (by decide) ?_
      refine wp_iload d_TC_change_140 rfl ?_
      refine wp_imul d_TC_change_142 ?_
      refine wp_iload d_TC_change_143 rfl ?_
      refine wp_iadd d_TC_change_145 ?_
      refine wp_istore (ls' := [_, _, _, _, _, _, _]) d_TC_change_146 (by decide) rfl ?_
      refine wp_iinc (v := _ + 1) (ls' := [_, _, _, _, _, _, _]) d_TC_change_148 (by decide) rfl rfl rfl ?_
      refine wp_goto (t := 70) d_TC_change_151 (by decide) ?_
      rw [show nI c + 1 = nI (c + 1) from nI_1 c]
      have hch : sp_ch1 (fun x y => sp_many (kd, vd, K.2.1 0 3, sp_sw ln x y, n, cl) (K.1 0 9) (K.2.1 0 1) (K.2.1 0 2) nn bt 0 0) a (q + 1) c (mo, pl) = if (sp_many (kd, vd, K.2.1 0 3, sp_sw ln a c, n, cl) (K.1 0 9) (K.2.1 0 1) (K.2.1 0 2) nn bt 0 0) ≤ mo then sp_ch1 (fun x y => sp_many (kd, vd, K.2.1 0 3, sp_sw ln x y, n, cl) (K.1 0 9) (K.2.1 0 1) (K.2.1 0 2) nn bt 0 0) a q (c + 1) (mo, pl) else sp_ch1 (fun x y => sp_many (kd, vd, K.2.1 0 3, sp_sw ln x y, n, cl) (K.1 0 9) (K.2.1 0 1) (K.2.1 0 2) nn bt 0 0) a q (c + 1) ((sp_many (kd, vd, K.2.1 0 3, sp_sw ln a c, n, cl) (K.1 0 9) (K.2.1 0 1) (K.2.1 0 2) nn bt 0 0), nI (10 * a + c)) := rfl
      rw [hch] at kk
      first
        | (rw [if_pos c_127] at kk; exact ih (c + 1) _ _ _ r2 (by omega) hsb hR2 kk)
        | (rw [if_neg c_127] at kk; rw [show (10 : Int32) * nI a + nI c = nI (10 * a + c) from by rw [show (10 : Int32) * nI a = nI (10 * a) from pk_mul 10 a, nI_add]]; exact ih (c + 1) _ _ _ r2 (by omega) hsb hR2 kk)
set_option maxRecDepth 4000 in
theorem l_TC_change_52 {n : Nat} {kd vd : Nat → Int32} {ln : Nat → Nat} {cl : List sp_Cl} {nn : Nat} {bt : Int32} (hD : 10 ≤ D) (hst : st_ok mn sc K 0 n B kd vd ln cl) (hB : B ≤ 20000) (hn30 : nn ≤ 30) : ∀ (q a : Nat) (mo pl : Int32) (K1 : tc_K) (r1 : tc_r), a + q = n → strt mn sc K K1 B (kd, vd, K.2.1 0 3, ln, n, cl) (K.1 0 9) (K.2.1 0 1) (K.2.1 0 2) → tc_R mn sc MZ r1 → (∀ K2 (r2 : tc_r), strt mn sc K K2 B (kd, vd, K.2.1 0 3, ln, n, cl) (K.1 0 9) (K.2.1 0 1) (K.2.1 0 2) → tc_R mn sc MZ r2 → Q (some (.int (sp_ch (fun x y => sp_many (kd, vd, K.2.1 0 3, sp_sw ln x y, n, cl) (K.1 0 9) (K.2.1 0 1) (K.2.1 0 2) nn bt 0 0) n q a (mo, pl)).2)) (HT K2 MZ r2)) → px_W G D 0 0 m_TC_change 52 [some (.ref 0), some (.int (nI nn)), some (.int bt), some (.int mo), some (.int pl), some (.int (nI a)), none] [] (HT K1 MZ r1) Q := by
  intro q
  have hn6 := hst.1.1
  induction q with
  | zero =>
    intro a mo pl K1 r1 haq hs hR1 kk
    refine wp_iload d_TC_change_52 rfl ?_
    refine wp_aload_n d_TC_change_54 rfl rfl rfl ?_
    refine gC_0 gf_TC_24_0 d_TC_change_55 ?_
    refine gK_8 (s := 0) (by decide) gf_TC_131_1 d_TC_change_58 ?_
    rw [(hs.1.1 0 (by decide)).1, hst.1.2.1]
    refine wp_icmp_ge (t := 160) d_TC_change_61 (by decide) (fun c_61 => ?_) (fun c_61 => absurd (nI_le (by omega) (by omega)) c_61)
    refine wp_iload d_TC_change_160 rfl ?_
    refine wp_ireturn d_TC_change_162 rfl rfl ?_
    exact kk K1 r1 hs hR1
  | succ q ih =>
    intro a mo pl K1 r1 haq hs hR1 kk
    refine wp_iload d_TC_change_52 rfl ?_
    refine wp_aload_n d_TC_change_54 rfl rfl rfl ?_
    refine gC_0 gf_TC_24_0 d_TC_change_55 ?_
    refine gK_8 (s := 0) (by decide) gf_TC_131_1 d_TC_change_58 ?_
    rw [(hs.1.1 0 (by decide)).1, hst.1.2.1]
    refine wp_icmp_ge (t := 160) d_TC_change_61 (by decide) (fun c_61 => absurd c_61 (nI_ge (by omega) (by omega))) (fun c_61 => ?_)
    refine wp_iload d_TC_change_64 rfl ?_
    refine wp_iconst (v := 1) d_TC_change_66 rfl ?_
    refine wp_iadd d_TC_change_67 ?_
    rw [show nI a + 1 = nI (a + 1) from nI_1 a]
    refine wp_istore (ls' := [_, _, _, _, _, _, _]) d_TC_change_68 (by decide) rfl ?_
    have hch : sp_ch (fun x y => sp_many (kd, vd, K.2.1 0 3, sp_sw ln x y, n, cl) (K.1 0 9) (K.2.1 0 1) (K.2.1 0 2) nn bt 0 0) n (q + 1) a (mo, pl) = sp_ch (fun x y => sp_many (kd, vd, K.2.1 0 3, sp_sw ln x y, n, cl) (K.1 0 9) (K.2.1 0 1) (K.2.1 0 2) nn bt 0 0) n q (a + 1) (sp_ch1 (fun x y => sp_many (kd, vd, K.2.1 0 3, sp_sw ln x y, n, cl) (K.1 0 9) (K.2.1 0 1) (K.2.1 0 2) nn bt 0 0) a (n - (a + 1)) (a + 1) (mo, pl)) := rfl
    rw [hch] at kk
    refine l_TC_change_70 hD hst hB hn30 (by omega) (n - (a + 1)) (a + 1) mo pl K1 r1 (by omega) hs hR1 (fun K2 r2 hs2 hR2 => ?_)
    refine wp_iinc (v := _ + 1) (ls' := [_, _, _, _, _, _, _]) d_TC_change_154 (by decide) rfl rfl rfl ?_
    refine wp_goto (t := 52) d_TC_change_157 (by decide) ?_
    rw [show nI a + 1 = nI (a + 1) from nI_1 a]
    refine wp_less (ls' := [some (.ref 0), some (.int (nI nn)), some (.int bt), some (.int _), some (.int _), some (.int (nI (a + 1))), none]) ⟨rfl, rfl, rfl, rfl, rfl, rfl, trivial⟩ ?_
    exact ih (a + 1) _ _ K2 r2 (by omega) hs2 hR2 kk
set_option maxRecDepth 4000 in
theorem c_TC_change {n : Nat} {kd vd : Nat → Int32} {ln : Nat → Nat} {cl : List sp_Cl} {x bt : Int32} (hD : 10 ≤ D) (hR : tc_R mn sc MZ r) (hst : st_ok mn sc K 0 n B kd vd ln cl) (hB : B ≤ 20000) (kb : ¬ ((1 ≤ x ∧ x ≤ 30) ∧ (1 ≤ bt ∧ bt ≤ 99)) → Q (some (.int (-2))) (HT K MZ r)) (kk : ((1 ≤ x ∧ x ≤ 30) ∧ (1 ≤ bt ∧ bt ≤ 99)) → ∀ nn, nn ≤ 30 → x = nI nn → ∀ K2 (r2 : tc_r), tk [2, 3, 4] K K2 → tc_R mn sc MZ r2 → Q (some (.int (sp_ch (fun x y => sp_many (kd, vd, K.2.1 0 3, sp_sw ln x y, n, cl) (K.1 0 9) (K.2.1 0 1) (K.2.1 0 2) nn bt 0 0) n n 0 ((sp_many (kd, vd, K.2.1 0 3, ln, n, cl) (K.1 0 9) (K.2.1 0 1) (K.2.1 0 2) nn bt 0 0), -5)).2)) (HT K2 MZ r2)) : px_W G D 0 0 m_TC_change 0 (px_ent 7 [.ref 0, .int x, .int bt]) [] (HT K MZ r) Q := by
  show px_W _ _ _ _ _ _ [some (.ref 0), some (.int x), some (.int bt), none, none, none, none] [] _ _
  refine wp_iload_n d_TC_change_0 rfl rfl ?_
  refine wp_callS (M' := m_TC_isNoCount) (as := [_]) (D' := D - 1) (C1 := 0) (C2 := 0) (S1 := 0) (S2 := 0) d_TC_change_1 w_770 w_771 k_TC_isNoCount (Nat.le_of_ble_eq_true rfl) rfl (Nat.le_of_ble_eq_true rfl) (by omega) rfl rfl ?_
  refine c_TC_isNoCount (by omega)  (fun hx => ?_) (fun hx => ?_)
  · skip
    refine wp_if_ne (t := 14) d_TC_change_4 (by decide) (fun c_4 => ?_) (fun c_4 => (absurd c_4 (by decide)))
    refine wp_bipush (v := (-2)) d_TC_change_14 (by decide) ?_
    refine wp_ireturn d_TC_change_16 rfl rfl ?_
    first
      | exact kb (fun z => hx z.1)
      | exact kb (fun z => hbt z.2)
  · skip
    refine wp_if_ne (t := 14) d_TC_change_4 (by decide) (fun c_4 => (absurd c_4 (by decide))) (fun c_4 => ?_)
    refine wp_iload_n d_TC_change_7 rfl rfl ?_
    refine wp_callS (M' := m_TC_isNoBeat) (as := [_]) (D' := D - 1) (C1 := 0) (C2 := 0) (S1 := 0) (S2 := 0) d_TC_change_8 w_669 w_670 k_TC_isNoBeat (Nat.le_of_ble_eq_true rfl) rfl (Nat.le_of_ble_eq_true rfl) (by omega) rfl rfl ?_
    refine c_TC_isNoBeat (by omega)  (fun hbt => ?_) (fun hbt => ?_)
    · skip
      refine wp_if_eq (t := 17) d_TC_change_11 (by decide) (fun c_11 => (absurd c_11 (by decide))) (fun c_11 => ?_)
      refine wp_bipush (v := (-2)) d_TC_change_14 (by decide) ?_
      refine wp_ireturn d_TC_change_16 rfl rfl ?_
      first
        | exact kb (fun z => hx z.1)
        | exact kb (fun z => hbt z.2)
    · skip
      obtain ⟨nn, hn30, rfl⟩ := sp_n1 (M := 30) (N := 30) rfl hx
      refine wp_if_eq (t := 17) d_TC_change_11 (by decide) (fun c_11 => ?_) (fun c_11 => (absurd c_11 (by decide)))
      refine wp_aload_n d_TC_change_17 rfl rfl rfl ?_
      refine gC_2 gf_TC_38_0 d_TC_change_18 ?_
      refine wp_aload_n d_TC_change_21 rfl rfl rfl ?_
      refine gC_0 gf_TC_24_0 d_TC_change_22 ?_
      refine wp_callV (r := (R_2, T_2, 6)) (M' := m_Tr_startFrom) (as := [_]) (D' := D - 1) (C1 := 0) (C2 := 0) (S1 := 0) (S2 := 0) d_TC_change_25 rfl w_704 w_705 w_706 tt_23 k_Tr_startFrom (Nat.le_of_ble_eq_true rfl) rfl (Nat.le_of_ble_eq_true rfl) (by omega) rfl rfl ?_
      refine c_st (by omega) hR hst (fun K1 hs hj2 hk2 => ?_)
      refine wp_aload_n d_TC_change_28 rfl rfl rfl ?_
      refine gC_2 gf_TC_38_0 d_TC_change_29 ?_
      refine wp_iload_n d_TC_change_32 rfl rfl ?_
      refine wp_iload_n d_TC_change_33 rfl rfl ?_
      refine wp_callV (r := (R_2, T_2, 6)) (M' := m_Tr_throwTubes) (as := [_, _]) (D' := D - 1) (C1 := 0) (C2 := 0) (S1 := 0) (S2 := 0) d_TC_change_34 rfl w_712 w_713 w_714 tt_23 k_Tr_throwTubes (Nat.le_of_ble_eq_true rfl) rfl (Nat.le_of_ble_eq_true rfl) (by omega) rfl rfl ?_
      refine c_tt (by omega) hR hs hB (by omega) (fun K2 r2 hs2 hR2 m1 m2 m3 m4 => ?_)
      refine wp_aload_n d_TC_change_37 rfl rfl rfl ?_
      refine gC_2 gf_TC_38_0 d_TC_change_38 ?_
      refine gR_3 gf_TC_192_2 d_TC_change_41 ?_
      rw [m1]
      refine wp_istore_n (ls' := [_, _, _, _, _, _, _]) d_TC_change_44 rfl (by decide) rfl ?_
      refine wp_bipush (v := (-5)) d_TC_change_45 (by decide) ?_
      refine wp_istore (ls' := [_, _, _, _, _, _, _]) d_TC_change_47 (by decide) rfl ?_
      refine wp_iconst (v := (nI 0)) d_TC_change_49 rfl ?_
      refine wp_istore (ls' := [_, _, _, _, _, _, _]) d_TC_change_50 (by decide) rfl ?_
      exact l_TC_change_52 hD hst hB hn30 n 0 _ _ K2 r2 (Nat.zero_add n) hs2 hR2 (fun K3 r3 h1 h2 => kk ⟨hx, hbt⟩ nn hn30 rfl K3 r3 h1.1 h2)
end TDG
