/-- what a throw needs of the reference: n places, who stands where, v, the clauses that hold, HELD's bound -/
def mo_w (I : Nat → Int32) (A : Nat → Nat → Int32) (n : Nat) (ln : Nat → Nat) (b : Nat) (cl : List sp_Cl) : Prop := n ≤ 6 ∧ I 1 = nI n ∧ (∀ p, p < n → ln p < 6 ∧ A 10 p = nI (ln p)) ∧ (∀ m, m < 6 → ∃ vv, vv ≤ 9 ∧ A 6 m = nI vv) ∧ mo_cur I A b cl ∧ ∃ mt, mt < 2 ^ 31 ∧ I 32 = nI mt
def mo_h (A : Nat → Nat → Int32) : Prop := ∀ m, m < 6 → ∃ hh, hh < 2 ^ 31 ∧ A 7 m = nI hh
theorem mo_w.ms {SI SA : List Nat} {I I' : Nat → Int32} {A A' : Nat → Nat → Int32} {n b : Nat} {ln : Nat → Nat} {cl : List sp_Cl} (h : mo_w I A n ln b cl) (hm : ms SI SA I I' A A') (h0 : 1 ∉ SI ∧ 12 ∉ SI ∧ 32 ∉ SI) (h1 : 6 ∉ SA ∧ 10 ∉ SA ∧ 17 ∉ SA ∧ 18 ∉ SA ∧ 19 ∉ SA ∧ 20 ∉ SA ∧ 21 ∉ SA ∧ 22 ∉ SA) : mo_w I' A' n ln b cl := by
  obtain ⟨a1, a2, a3, a4, a5, a6⟩ := h
  refine ⟨a1, ?_, ?_, ?_, a5.ms hm h0.2.1 h1.2.2, ?_⟩
  · rw [hm.1 1 h0.1]; exact a2
  · rw [hm.2 10 h1.2.1]; exact a3
  · rw [hm.2 6 h1.1]; exact a4
  · rw [hm.1 32 h0.2.2]; exact a6
theorem mo_h.inc {A A' : Nat → Nat → Int32} {m mt : Nat} (h : mo_h A) (hmt : mt < 2 ^ 31) (he : A' 7 = upd (A 7) m (sp_inc (nI mt) (A 7 m))) (hm : m < 6) : mo_h A' := by
  intro j hj
  rw [he]
  by_cases hjm : j = m
  · subst hjm
    obtain ⟨hh, h1, h2⟩ := h j hj
    show ∃ hh, hh < 2 ^ 31 ∧ (if j = j then sp_inc (nI mt) (A 7 j) else A 7 j) = nI hh
    rw [if_pos rfl, h2]
    unfold sp_inc
    by_cases hc : nI hh < nI mt
    · rw [if_pos hc, nI_1]
      have := (nI_ltI h1 hmt).mp hc
      exact ⟨hh + 1, by omega, rfl⟩
    · rw [if_neg hc]
      exact ⟨mt, hmt, rfl⟩
  · show ∃ hh, hh < 2 ^ 31 ∧ (if j = m then sp_inc (nI mt) (A 7 m) else A 7 j) = nI hh
    rw [if_neg hjm]
    exact h j hj
/-- what is known behind a throw -/
def mo_gp (Q : Option Value → px_H → Prop) (X : px_H) (L : Nat → Nat → Int64) (E : px_H) (I : Nat → Int32) (A : Nat → Nat → Int32) (r : (Option Nat) × Int32 × (Nat → Int32) × (Nat → Int32)) : Prop := ∀ (I' : Nat → Int32) (A' : Nat → Nat → Int32), ms [29, 30, 31] [7, 8, 28] I I' A A' → A' 7 = r.2.2.1 → A' 8 = r.2.2.2 → mo_h A' → (match r.1 with | none => I' 31 = r.2.1 → Q (some (.int 1)) (HM X I' A' L E) | some m => I' 30 = nI m → m < 6 → Q (some (.int 0)) (HM X I' A' L E))
section MO5
variable {G : px_G} {D : Nat} {X E : px_H} {I : Nat → Int32} {A : Nat → Nat → Int32} {L : Nat → Nat → Int64} {Q : Option Value → px_H → Prop}
set_option maxRecDepth 4000 in
theorem c_Mo_holdsOnce {m : Nat} (hD : 0 ≤ D) (hm : m < 6) (k : Q none (HM X I (va_up A 7 (upd (A 7) m (sp_inc (I 32) (A 7 m)))) L E)) : px_W G D 0 0 m_Mo_holdsOnce 0 (px_ent 2 [.ref X.length, .int (nI m)]) [] (HM X I A L E) Q := by
  show px_W _ _ _ _ _ _ [some (.ref X.length), some (.int (nI m))] [] _ _
  refine wp_aload_n d_Mo_holdsOnce_0 rfl rfl rfl ?_
  refine gM_7 rfl d_Mo_holdsOnce_1 ?_
  refine wp_iload_n d_Mo_holdsOnce_4 rfl rfl ?_
  refine wp_aload_n d_Mo_holdsOnce_5 rfl rfl rfl ?_
  refine gM_7 rfl d_Mo_holdsOnce_6 ?_
  refine wp_iload_n d_Mo_holdsOnce_9 rfl rfl ?_
  refine lM_7 d_Mo_holdsOnce_10 (vp_in_nI (by omega) (by decide)) ?_
  refine wp_aload_n d_Mo_holdsOnce_11 rfl rfl rfl ?_
  refine gM_32 rfl d_Mo_holdsOnce_12 ?_
  refine wp_icmp_ge (t := 29) d_Mo_holdsOnce_15 (by decide) (fun c_15 => ?_) (fun c_15 => ?_)
  · skip
    refine wp_aload_n d_Mo_holdsOnce_29 rfl rfl rfl ?_
    refine gM_32 rfl d_Mo_holdsOnce_30 ?_
    refine sM_7 d_Mo_holdsOnce_33 (vp_in_nI (by omega) (by decide)) ?_
    refine wp_return d_Mo_holdsOnce_34 rfl ?_
    rw [nI_clamp (by omega)] at c_15
    rw [show upd (A 7) (nI m).toNatClampNeg _ = upd (A 7) m (sp_inc (I 32) (A 7 m)) from by rw [nI_clamp (by omega)]; unfold sp_inc; first | rw [if_pos (Int32.not_le.mp c_15)] | rw [if_neg (Int32.not_lt.mpr c_15)]]
    exact k
  · skip
    refine wp_aload_n d_Mo_holdsOnce_18 rfl rfl rfl ?_
    refine gM_7 rfl d_Mo_holdsOnce_19 ?_
    refine wp_iload_n d_Mo_holdsOnce_22 rfl rfl ?_
    refine lM_7 d_Mo_holdsOnce_23 (vp_in_nI (by omega) (by decide)) ?_
    refine wp_iconst (v := 1) d_Mo_holdsOnce_24 rfl ?_
    refine wp_iadd d_Mo_holdsOnce_25 ?_
    refine wp_goto (t := 33) d_Mo_holdsOnce_26 (by decide) ?_
    refine sM_7 d_Mo_holdsOnce_33 (vp_in_nI (by omega) (by decide)) ?_
    refine wp_return d_Mo_holdsOnce_34 rfl ?_
    rw [nI_clamp (by omega)] at c_15
    rw [show upd (A 7) (nI m).toNatClampNeg _ = upd (A 7) m (sp_inc (I 32) (A 7 m)) from by rw [nI_clamp (by omega)]; unfold sp_inc; first | rw [if_pos (Int32.not_le.mp c_15)] | rw [if_neg (Int32.not_lt.mpr c_15)]]
    exact k
set_option maxRecDepth 4000 in
set_option maxHeartbeats 1000000 in
theorem l_Mo_goTube_17 {n b : Nat} {ln : Nat → Nat} {cl : List sp_Cl} (hD : 4 ≤ D) (hw : mo_w I A n ln b cl) : ∀ (q p : Nat) (t : Int32) (I1 : Nat → Int32) (A1 : Nat → Nat → Int32), p + q = n → ms [29, 30, 31] [7, 8, 28] I I1 A A1 → mo_h A1 → mo_gp Q X L E I A (sp_go (A 5, A 6, A 9, ln, n, cl) (I 32) q p t (A1 7) (A1 8)) → px_W G D 0 0 m_Mo_goTube 17 [some (.ref X.length), some (.int t), some (.int (nI p)), none, none] [] (HM X I1 A1 L E) Q := by
  intro q
  obtain ⟨mt, hmt, emt⟩ := hw.2.2.2.2.2
  induction q with
  | zero =>
    intro p t I1 A1 hp hm hh hq
    have hw1 := hw.ms hm (by decide) (by decide)
    have hn6 := hw.1
    refine wp_iload_n d_Mo_goTube_17 rfl rfl ?_
    refine wp_aload_n d_Mo_goTube_18 rfl rfl rfl ?_
    refine gM_1 rfl d_Mo_goTube_19 ?_
    refine wp_icmp_ge (t := 134) d_Mo_goTube_22 (by decide) (fun c_22 => ?_) (fun c_22 => absurd (by rw [hw1.2.1]; exact nI_le (by omega) (by omega)) c_22)
    refine wp_aload_n d_Mo_goTube_134 rfl rfl rfl ?_
    refine wp_iload_n d_Mo_goTube_135 rfl rfl ?_
    refine pM_31 rfl d_Mo_goTube_136 ?_
    refine wp_iconst (v := 1) d_Mo_goTube_139 rfl ?_
    refine wp_ireturn d_Mo_goTube_140 rfl rfl ?_
    exact hq _ _ (hm.i 31 (by decide) t) rfl rfl hh rfl
  | succ q ih =>
    intro p t I1 A1 hp hm hh hq
    have hw1 := hw.ms hm (by decide) (by decide)
    have hn6 := hw.1
    obtain ⟨hlm, hch⟩ := hw1.2.2.1 p (by omega)
    obtain ⟨hh0, hhl, ehh⟩ := hh (ln p) hlm
    obtain ⟨vv, hvl, evv⟩ := hw1.2.2.2.1 (ln p) hlm
    have e10 : A1 10 (nI p).toNatClampNeg = nI (ln p) := by rw [nI_clamp (by omega)]; exact hch
    have ecl : (nI (ln p)).toNatClampNeg = ln p := nI_clamp (by omega)
    have a5 : A1 5 = A 5 := hm.2 5 (by decide)
    have a6 : A1 6 = A 6 := hm.2 6 (by decide)
    have a9 : A1 9 = A 9 := hm.2 9 (by decide)
    have i32 : I1 32 = I 32 := hm.1 32 (by decide)
    have ne2 : ¬ A1 6 (ln p) + 2 = 0 := by rw [evv, show nI vv + 2 = nI (vv + 2) from nI_add vv 2]; exact nI_ne0 (by omega) (by omega)
    refine wp_iload_n d_Mo_goTube_17 rfl rfl ?_
    refine wp_aload_n d_Mo_goTube_18 rfl rfl rfl ?_
    refine gM_1 rfl d_Mo_goTube_19 ?_
    refine wp_icmp_ge (t := 134) d_Mo_goTube_22 (by decide) (fun c_22 => absurd c_22 (by rw [hw1.2.1]; exact nI_ge (by omega) (by omega))) (fun c_22 => ?_)
    refine wp_aload_n d_Mo_goTube_25 rfl rfl rfl ?_
    refine gM_10 rfl d_Mo_goTube_26 ?_
    refine wp_iload_n d_Mo_goTube_29 rfl rfl ?_
    refine lM_10 d_Mo_goTube_30 (vp_in_nI (by omega) (by decide)) ?_
    rw [e10]
    refine wp_istore_n (ls' := [_, _, _, _, _]) d_Mo_goTube_31 rfl (by decide) rfl ?_
    refine wp_iload_n d_Mo_goTube_32 rfl rfl ?_
    refine wp_aload_n d_Mo_goTube_33 rfl rfl rfl ?_
    refine gM_8 rfl d_Mo_goTube_34 ?_
    refine wp_iload_n d_Mo_goTube_37 rfl rfl ?_
    refine lM_8 d_Mo_goTube_38 (vp_in_nI (by omega) (by decide)) ?_
    rw [ecl]
    refine wp_icmp_ge (t := 49) d_Mo_goTube_39 (by decide) (fun c_39 => ?_) (fun c_39 => ?_)
    · skip
      refine wp_aload_n d_Mo_goTube_49 rfl rfl rfl ?_
      refine gM_5 rfl d_Mo_goTube_50 ?_
      refine wp_iload_n d_Mo_goTube_53 rfl rfl ?_
      refine lM_5 d_Mo_goTube_54 (vp_in_nI (by omega) (by decide)) ?_
      rw [ecl]
      refine wp_iconst (v := 5) d_Mo_goTube_55 rfl ?_
      refine wp_icmp_ne (t := 91) d_Mo_goTube_56 (by decide) (fun c_56 => ?_) (fun c_56 => ?_)
      · skip
        refine wp_aload_n d_Mo_goTube_91 rfl rfl rfl ?_
        refine wp_iload_n d_Mo_goTube_92 rfl rfl ?_
        refine wp_callV (r := (R_12, T_12, 70)) (M' := m_Mo_holdsFor) (as := [_]) (D' := D - 1) (C1 := 0) (C2 := 0) (S1 := 0) (S2 := 0) d_Mo_goTube_93 rfl w_1329 w_1331 w_39 hm_0 k_Mo_holdsFor (Nat.le_of_ble_eq_true rfl) rfl (Nat.le_of_ble_eq_true rfl) (by omega) rfl rfl ?_
        refine c_Mo_holdsFor (by omega) hw1.2.2.2.2.1 hlm (by omega) hch hhl ehh (fun f => ?_)
        refine wp_istore (ls' := [_, _, _, _, _]) d_Mo_goTube_96 (by decide) rfl ?_
        refine wp_aload_n d_Mo_goTube_98 rfl rfl rfl ?_
        refine wp_iload_n d_Mo_goTube_99 rfl rfl ?_
        refine wp_callV (r := (R_12, T_12, 70)) (M' := m_Mo_holdsOnce) (as := [_]) (D' := D - 1) (C1 := 0) (C2 := 0) (S1 := 0) (S2 := 0) d_Mo_goTube_100 rfl w_1370 w_1372 w_47 hm_0 k_Mo_holdsOnce (Nat.le_of_ble_eq_true rfl) rfl (Nat.le_of_ble_eq_true rfl) (by omega) rfl rfl ?_
        refine c_Mo_holdsOnce (by omega) hlm ?_
        refine wp_aload_n d_Mo_goTube_103 rfl rfl rfl ?_
        refine gM_8 rfl d_Mo_goTube_104 ?_
        refine wp_iload_n d_Mo_goTube_107 rfl rfl ?_
        refine wp_iload_n d_Mo_goTube_108 rfl rfl ?_
        refine wp_iload d_Mo_goTube_109 rfl ?_
        refine wp_iadd d_Mo_goTube_111 ?_
        refine wp_aload_n d_Mo_goTube_112 rfl rfl rfl ?_
        refine wp_callV (r := (R_12, T_12, 70)) (M' := m_Mo_rest) (as := []) (D' := D - 1) (C1 := 0) (C2 := 0) (S1 := 0) (S2 := 0) d_Mo_goTube_113 rfl w_1349 w_1351 w_43 hm_0 k_Mo_rest (Nat.le_of_ble_eq_true rfl) rfl (Nat.le_of_ble_eq_true rfl) (by omega) rfl rfl ?_
        refine c_Mo_rest (by omega) (hw1.2.2.2.2.1.ms (((((ms.rf (SI := [29]) (SA := [7, 8, 28])).i 29 (by decide) (nI p)).a 28 (by decide) f).a 7 (by decide) _)) (by decide) (by decide)) ?_
        refine wp_iadd d_Mo_goTube_116 ?_
        refine sM_8 d_Mo_goTube_117 (vp_in_nI (by omega) (by decide)) ?_
        refine wp_iload_n d_Mo_goTube_118 rfl rfl ?_
        refine wp_iload d_Mo_goTube_119 rfl ?_
        refine wp_aload_n d_Mo_goTube_121 rfl rfl rfl ?_
        refine wp_callV (r := (R_12, T_12, 70)) (M' := m_Mo_rise) (as := []) (D' := D - 1) (C1 := 0) (C2 := 0) (S1 := 0) (S2 := 0) d_Mo_goTube_122 rfl w_1341 w_1343 w_41 hm_0 k_Mo_rise (Nat.le_of_ble_eq_true rfl) rfl (Nat.le_of_ble_eq_true rfl) (by omega) rfl rfl ?_
        refine c_Mo_rise (by omega) (hw1.2.2.2.2.1.ms ((((((ms.rf (SI := [29]) (SA := [7, 8, 28])).i 29 (by decide) (nI p)).a 28 (by decide) f).a 7 (by decide) _)).a 8 (by decide) _) (by decide) (by decide)) ?_
        refine wp_iadd d_Mo_goTube_125 ?_
        refine wp_iadd d_Mo_goTube_126 ?_
        refine wp_istore_n (ls' := [_, _, _, _, _]) d_Mo_goTube_127 rfl (by decide) rfl ?_
        refine wp_iinc (v := _ + 1) (ls' := [_, _, _, _, _]) d_Mo_goTube_128 (by decide) rfl rfl rfl ?_
        refine wp_goto (t := 17) d_Mo_goTube_131 (by decide) ?_
        have hns : ¬ (A 5 (ln p) = 5 ∧ (A1 7 (ln p) + 1) - (A1 7 (ln p) + 1) / (A 6 (ln p) + 2) * (A 6 (ln p) + 2) = 0) := by
          rw [← a5, ← a6]
          first
            | exact fun z => c_56 z.1
            | exact fun z => c_76 z.2
        rw [sp_go_s (s := (A 5, A 6, A 9, ln, n, cl)) (p := p) (show ¬ t < A1 8 (ln p) from Int32.not_lt.mpr c_39) hns] at hq
        rw [show nI p + 1 = nI (p + 1) from nI_1 p, ecl]
        rw [show upd I1 29 (nI p) 32 = I 32 from i32]
        refine wp_less (ls' := [some (.ref X.length), some (.int _), some (.int _), none, none]) ⟨rfl, rfl, rfl, trivial⟩ ?_
        refine ih (p + 1) _ _ _ (by omega) ((((hm.i 29 (by decide) (nI p)).a 28 (by decide) f).a 7 (by decide) _).a 8 (by decide) _) ?_ ?_
        · exact hh.inc hmt (by rw [emt]; rfl) hlm
        · rw [a5, a6, a9]
          exact hq
      · skip
        refine wp_aload_n d_Mo_goTube_59 rfl rfl rfl ?_
        refine gM_7 rfl d_Mo_goTube_60 ?_
        refine wp_iload_n d_Mo_goTube_63 rfl rfl ?_
        refine lM_7 d_Mo_goTube_64 (vp_in_nI (by omega) (by decide)) ?_
        rw [ecl]
        refine wp_iconst (v := 1) d_Mo_goTube_65 rfl ?_
        refine wp_iadd d_Mo_goTube_66 ?_
        refine wp_aload_n d_Mo_goTube_67 rfl rfl rfl ?_
        refine gM_6 rfl d_Mo_goTube_68 ?_
        refine wp_iload_n d_Mo_goTube_71 rfl rfl ?_
        refine lM_6 d_Mo_goTube_72 (vp_in_nI (by omega) (by decide)) ?_
        rw [ecl]
        refine wp_iconst (v := 2) d_Mo_goTube_73 rfl ?_
        refine wp_iadd d_Mo_goTube_74 ?_
        refine wp_irem d_Mo_goTube_75 ne2 ?_
        refine wp_if_ne (t := 91) d_Mo_goTube_76 (by decide) (fun c_76 => ?_) (fun c_76 => ?_)
        · skip
          refine wp_aload_n d_Mo_goTube_91 rfl rfl rfl ?_
          refine wp_iload_n d_Mo_goTube_92 rfl rfl ?_
          refine wp_callV (r := (R_12, T_12, 70)) (M' := m_Mo_holdsFor) (as := [_]) (D' := D - 1) (C1 := 0) (C2 := 0) (S1 := 0) (S2 := 0) d_Mo_goTube_93 rfl w_1329 w_1331 w_39 hm_0 k_Mo_holdsFor (Nat.le_of_ble_eq_true rfl) rfl (Nat.le_of_ble_eq_true rfl) (by omega) rfl rfl ?_
          refine c_Mo_holdsFor (by omega) hw1.2.2.2.2.1 hlm (by omega) hch hhl ehh (fun f => ?_)
          refine wp_istore (ls' := [_, _, _, _, _]) d_Mo_goTube_96 (by decide) rfl ?_
          refine wp_aload_n d_Mo_goTube_98 rfl rfl rfl ?_
          refine wp_iload_n d_Mo_goTube_99 rfl rfl ?_
          refine wp_callV (r := (R_12, T_12, 70)) (M' := m_Mo_holdsOnce) (as := [_]) (D' := D - 1) (C1 := 0) (C2 := 0) (S1 := 0) (S2 := 0) d_Mo_goTube_100 rfl w_1370 w_1372 w_47 hm_0 k_Mo_holdsOnce (Nat.le_of_ble_eq_true rfl) rfl (Nat.le_of_ble_eq_true rfl) (by omega) rfl rfl ?_
          refine c_Mo_holdsOnce (by omega) hlm ?_
          refine wp_aload_n d_Mo_goTube_103 rfl rfl rfl ?_
          refine gM_8 rfl d_Mo_goTube_104 ?_
          refine wp_iload_n d_Mo_goTube_107 rfl rfl ?_
          refine wp_iload_n d_Mo_goTube_108 rfl rfl ?_
          refine wp_iload d_Mo_goTube_109 rfl ?_
          refine wp_iadd d_Mo_goTube_111 ?_
          refine wp_aload_n d_Mo_goTube_112 rfl rfl rfl ?_
          refine wp_callV (r := (R_12, T_12, 70)) (M' := m_Mo_rest) (as := []) (D' := D - 1) (C1 := 0) (C2 := 0) (S1 := 0) (S2 := 0) d_Mo_goTube_113 rfl w_1349 w_1351 w_43 hm_0 k_Mo_rest (Nat.le_of_ble_eq_true rfl) rfl (Nat.le_of_ble_eq_true rfl) (by omega) rfl rfl ?_
          refine c_Mo_rest (by omega) (hw1.2.2.2.2.1.ms (((((ms.rf (SI := [29]) (SA := [7, 8, 28])).i 29 (by decide) (nI p)).a 28 (by decide) f).a 7 (by decide) _)) (by decide) (by decide)) ?_
          refine wp_iadd d_Mo_goTube_116 ?_
          refine sM_8 d_Mo_goTube_117 (vp_in_nI (by omega) (by decide)) ?_
          refine wp_iload_n d_Mo_goTube_118 rfl rfl ?_
          refine wp_iload d_Mo_goTube_119 rfl ?_
          refine wp_aload_n d_Mo_goTube_121 rfl rfl rfl ?_
          refine wp_callV (r := (R_12, T_12, 70)) (M' := m_Mo_rise) (as := []) (D' := D - 1) (C1 := 0) (C2 := 0) (S1 := 0) (S2 := 0) d_Mo_goTube_122 rfl w_1341 w_1343 w_41 hm_0 k_Mo_rise (Nat.le_of_ble_eq_true rfl) rfl (Nat.le_of_ble_eq_true rfl) (by omega) rfl rfl ?_
          refine c_Mo_rise (by omega) (hw1.2.2.2.2.1.ms ((((((ms.rf (SI := [29]) (SA := [7, 8, 28])).i 29 (by decide) (nI p)).a 28 (by decide) f).a 7 (by decide) _)).a 8 (by decide) _) (by decide) (by decide)) ?_
          refine wp_iadd d_Mo_goTube_125 ?_
          refine wp_iadd d_Mo_goTube_126 ?_
          refine wp_istore_n (ls' := [_, _, _, _, _]) d_Mo_goTube_127 rfl (by decide) rfl ?_
          refine wp_iinc (v := _ + 1) (ls' := [_, _, _, _, _]) d_Mo_goTube_128 (by decide) rfl rfl rfl ?_
          refine wp_goto (t := 17) d_Mo_goTube_131 (by decide) ?_
          have hns : ¬ (A 5 (ln p) = 5 ∧ (A1 7 (ln p) + 1) - (A1 7 (ln p) + 1) / (A 6 (ln p) + 2) * (A 6 (ln p) + 2) = 0) := by
            rw [← a5, ← a6]
            first
              | exact fun z => c_56 z.1
              | exact fun z => c_76 z.2
          rw [sp_go_s (s := (A 5, A 6, A 9, ln, n, cl)) (p := p) (show ¬ t < A1 8 (ln p) from Int32.not_lt.mpr c_39) hns] at hq
          rw [show nI p + 1 = nI (p + 1) from nI_1 p, ecl]
          rw [show upd I1 29 (nI p) 32 = I 32 from i32]
          refine wp_less (ls' := [some (.ref X.length), some (.int _), some (.int _), none, none]) ⟨rfl, rfl, rfl, trivial⟩ ?_
          refine ih (p + 1) _ _ _ (by omega) ((((hm.i 29 (by decide) (nI p)).a 28 (by decide) f).a 7 (by decide) _).a 8 (by decide) _) ?_ ?_
          · exact hh.inc hmt (by rw [emt]; rfl) hlm
          · rw [a5, a6, a9]
            exact hq
        · skip
          refine wp_aload_n d_Mo_goTube_79 rfl rfl rfl ?_
          refine wp_iload_n d_Mo_goTube_80 rfl rfl ?_
          refine wp_callV (r := (R_12, T_12, 70)) (M' := m_Mo_holdsOnce) (as := [_]) (D' := D - 1) (C1 := 0) (C2 := 0) (S1 := 0) (S2 := 0) d_Mo_goTube_81 rfl w_1370 w_1372 w_47 hm_0 k_Mo_holdsOnce (Nat.le_of_ble_eq_true rfl) rfl (Nat.le_of_ble_eq_true rfl) (by omega) rfl rfl ?_
          refine c_Mo_holdsOnce (by omega) hlm ?_
          refine wp_aload_n d_Mo_goTube_84 rfl rfl rfl ?_
          refine wp_iload_n d_Mo_goTube_85 rfl rfl ?_
          refine pM_30 rfl d_Mo_goTube_86 ?_
          refine wp_iconst (v := 0) d_Mo_goTube_89 rfl ?_
          refine wp_ireturn d_Mo_goTube_90 rfl rfl ?_
          rw [sp_go_l (s := (A 5, A 6, A 9, ln, n, cl)) (p := p) (show ¬ t < A1 8 (ln p) from Int32.not_lt.mpr c_39) ⟨(congrFun a5 (ln p)).symm.trans c_56, by rw [← a6]; exact c_76⟩] at hq
          rw [show I1 32 = I 32 from i32]
          exact hq _ _ ((hm.a 7 (by decide) _).i 30 (by decide) (nI (ln p))) rfl rfl (hh.inc hmt (by rw [emt]; rfl) hlm) rfl hlm
    · skip
      refine wp_aload_n d_Mo_goTube_42 rfl rfl rfl ?_
      refine wp_iload_n d_Mo_goTube_43 rfl rfl ?_
      refine pM_30 rfl d_Mo_goTube_44 ?_
      refine wp_iconst (v := 0) d_Mo_goTube_47 rfl ?_
      refine wp_ireturn d_Mo_goTube_48 rfl rfl ?_
      rw [sp_go_f (s := (A 5, A 6, A 9, ln, n, cl)) (p := p) (show t < A1 8 (ln p) from Int32.not_le.mp c_39)] at hq
      exact hq _ _ (hm.i 30 (by decide) (nI (ln p))) rfl rfl hh rfl hlm
set_option maxRecDepth 4000 in
theorem c_Mo_goTube {n b : Nat} {ln : Nat → Nat} {cl : List sp_Cl} (hD : 4 ≤ D) (hw : mo_w I A n ln b cl) (hh : mo_h A) (k : mo_gp Q X L E I A (sp_throw (A 5, A 6, A 9, ln, n, cl) (I 32) (I 2) (A 7) (A 8))) : px_W G D 0 0 m_Mo_goTube 0 (px_ent 5 [.ref X.length]) [] (HM X I A L E) Q := by
  show px_W _ _ _ _ _ _ [some (.ref X.length), none, none, none, none] [] _ _
  refine wp_aload_n d_Mo_goTube_0 rfl rfl rfl ?_
  refine gM_2 rfl d_Mo_goTube_1 ?_
  refine wp_aload_n d_Mo_goTube_4 rfl rfl rfl ?_
  refine wp_callV (r := (R_12, T_12, 70)) (M' := m_Mo_rise) (as := []) (D' := D - 1) (C1 := 0) (C2 := 0) (S1 := 0) (S2 := 0) d_Mo_goTube_5 rfl w_1341 w_1343 w_41 hm_0 k_Mo_rise (Nat.le_of_ble_eq_true rfl) rfl (Nat.le_of_ble_eq_true rfl) (by omega) rfl rfl ?_
  refine c_Mo_rise (by omega) hw.2.2.2.2.1 ?_
  refine wp_iadd d_Mo_goTube_8 ?_
  refine wp_istore_n (ls' := [_, _, _, _, _]) d_Mo_goTube_9 rfl (by decide) rfl ?_
  refine wp_aload_n d_Mo_goTube_10 rfl rfl rfl ?_
  refine wp_iconst (v := (-1)) d_Mo_goTube_11 rfl ?_
  refine pM_30 rfl d_Mo_goTube_12 ?_
  refine wp_iconst (v := 0) d_Mo_goTube_15 rfl ?_
  refine wp_istore_n (ls' := [_, _, _, _, _]) d_Mo_goTube_16 rfl (by decide) rfl ?_
  refine wp_less (ls' := [some (.ref X.length), some (.int _), some (.int (nI 0)), none, none]) ⟨rfl, rfl, rfl, trivial⟩ ?_
  exact l_Mo_goTube_17 hD hw n 0 _ _ A (by omega) ((ms.rf).i 30 (by decide) _) hh k
end MO5
