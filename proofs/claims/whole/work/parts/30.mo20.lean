theorem mo_R.out {I I1 : Nat → Int32} {A A1 : Nat → Nat → Int32} {n s0 c f p : Nat} {W o : List Nat} {t : Nat} {x : Int32} (h : mo_R I A I1 A1 n s0 c f p W o) (hx : x = mo_enc t) (hle : s0 + (o.length + 1) + W.length ≤ 100 * f + p) : mo_R I A (upd I1 24 (nI (s0 + o.length + 1))) (va_up A1 22 (upd (A1 22) (s0 + o.length) x)) n s0 c f p W (o ++ [t]) := by
  obtain ⟨hm, h21, h14, hpn, h24, h25, h26, hst, hs1, ho, -⟩ := h
  have h2 := mo_out hs1 ho hx
  have hl : (o ++ [t]).length = o.length + 1 := by rw [List.length_append]; rfl
  exact ⟨(hm.i 24 (by decide) _).a 22 (by decide) _, h21, h14, hpn, by rw [hl]; rfl, h25, h26, hst, h2.1, h2.2, by rw [hl]; exact hle⟩
theorem sp_wE_l : ∀ {W : List Nat}, (sp_wE W).length + (sp_wW W).length ≤ W.length
  | [] => Nat.le_refl _
  | x :: W => by
    have ih := sp_wE_l (W := W)
    show (if x = 33 then 6000 :: sp_wE W else []).length + (if x = 33 then sp_wW W else x :: W).length ≤ W.length + 1
    by_cases h : x = 33
    · rw [if_pos h, if_pos h]; show (sp_wE W).length + 1 + _ ≤ _; omega
    · rw [if_neg h, if_neg h]; show 0 + (W.length + 1) ≤ W.length + 1; omega
section MOK
variable {G : px_G} {D : Nat} {X E : px_H} {I : Nat → Int32} {A : Nat → Nat → Int32} {L : Nat → Nat → Int64} {Q : Option Value → px_H → Prop}
set_option maxRecDepth 4000 in
theorem c_Mo_whole {n s0 c f : Nat} {p : Nat} (hD : 1 ≤ D) (hf : f ≤ 5) (hn : n ≤ 100) (hs0 : 100 * f ≤ s0) : ∀ (W o : List Nat) (I1 : Nat → Int32) (A1 : Nat → Nat → Int32), mo_R I A I1 A1 n s0 c f p W o → (∀ (I2 : Nat → Int32) (A2 : Nat → Nat → Int32), mo_R I A I2 A2 n s0 c f p (sp_wW W) (o ++ sp_wE W) → Q none (HM X I2 A2 L E)) → px_W G D 0 0 m_Mo_whole 0 [some (.ref X.length)] [] (HM X I1 A1 L E) Q := by
  intro W
  induction W with
  | nil =>
    intro o I1 A1 hR k
    have h25 : I1 25 = nI 0 := hR.2.2.2.2.2.1
    refine wp_aload_n d_Mo_whole_0 rfl rfl rfl ?_
    refine gM_25 rfl d_Mo_whole_1 ?_
    rw [h25]
    refine wp_if_le (t := 52) d_Mo_whole_4 (by decide) (fun c_4 => ?_) (fun c_4 => absurd (by decide) c_4)
    refine wp_return d_Mo_whole_52 rfl ?_
    have h2 := k I1 A1
    rw [show o ++ sp_wE [] = o from List.append_nil o] at h2
    exact h2 hR
  | cons x W ih =>
    intro o I1 A1 hR k
    have hR0 := hR
    obtain ⟨hm, h21, h14, hpn, h24, h25, h26, hst, hs1, ho, hle⟩ := hR
    have hlc : (x :: W).length = W.length + 1 := rfl
    rw [hlc] at h25 hle
    have hxx : A1 23 W.length = nI x := hst.1
    have hx128 := hst.2.1
    refine wp_aload_n d_Mo_whole_0 rfl rfl rfl ?_
    refine gM_25 rfl d_Mo_whole_1 ?_
    rw [h25]
    refine wp_if_le (t := 52) d_Mo_whole_4 (by decide) (fun c_4 => absurd c_4 (nI_nle (by omega) (by omega))) (fun c_4 => ?_)
    refine wp_aload_n d_Mo_whole_7 rfl rfl rfl ?_
    refine gM_23 rfl d_Mo_whole_8 ?_
    refine wp_aload_n d_Mo_whole_11 rfl rfl rfl ?_
    refine gM_25 rfl d_Mo_whole_12 ?_
    refine wp_iconst (v := 1) d_Mo_whole_15 rfl ?_
    refine wp_isub d_Mo_whole_16 ?_
    rw [h25, nI_pred]
    refine lM_23 d_Mo_whole_17 (vp_in_nI (by omega) (by decide)) ?_
    rw [nI_clamp (by omega), hxx]
    refine wp_bipush (v := 33) d_Mo_whole_18 (by decide) ?_
    refine wp_icmp_ne (t := 52) d_Mo_whole_20 (by decide) (fun c_20 => ?_) (fun c_20 => ?_)
    · skip
      refine wp_return d_Mo_whole_52 rfl ?_
      have h33 : ¬ x = 33 := fun e => c_20 (by rw [e]; rfl)
      have h2 := k I1 A1
      rw [show sp_wW (x :: W) = x :: W from if_neg h33, show sp_wE (x :: W) = [] from if_neg h33, List.append_nil] at h2
      exact h2 hR0
    · skip
      refine wp_aload_n d_Mo_whole_23 rfl rfl rfl ?_
      refine wp_bipush (v := (-33)) d_Mo_whole_24 (by decide) ?_
      refine wp_callV (r := (R_12, T_12, 70)) (M' := m_Mo_emits) (as := [_]) (D' := D - 1) (C1 := 0) (C2 := 0) (S1 := 0) (S2 := 0) d_Mo_whole_26 rfl w_1289 w_1291 w_30 hm_0 k_Mo_emits (Nat.le_of_ble_eq_true rfl) rfl (Nat.le_of_ble_eq_true rfl) (by omega) rfl rfl ?_
      refine c_Mo_emits (by omega) h24 (by omega) ?_
      refine wp_aload_n d_Mo_whole_29 rfl rfl rfl ?_
      refine wp_dup d_Mo_whole_30 rfl ?_
      refine gM_25 rfl d_Mo_whole_31 ?_
      refine wp_iconst (v := 1) d_Mo_whole_34 rfl ?_
      refine wp_isub d_Mo_whole_35 ?_
      refine pM_25 rfl d_Mo_whole_36 ?_
      refine wp_aload_n d_Mo_whole_39 rfl rfl rfl ?_
      refine wp_dup d_Mo_whole_40 rfl ?_
      refine gM_26 rfl d_Mo_whole_41 ?_
      refine wp_iconst (v := 1) d_Mo_whole_44 rfl ?_
      refine wp_isub d_Mo_whole_45 ?_
      refine pM_26 rfl d_Mo_whole_46 ?_
      refine wp_goto (t := 0) d_Mo_whole_49 (by decide) ?_
      have h33 : x = 33 := (nI_eq (b := 33) (by omega) (by decide)).mp c_20
      have h2o := mo_out hs1 ho (show (-33 : Int32) = mo_enc 6000 from by decide)
      have hol : (o ++ [6000]).length = o.length + 1 := by rw [List.length_append]; rfl
      have hop : sp_op (x :: W) = sp_op W + 1 := by show (if x = 33 ∨ x = 40 then 1 else 0) + sp_op W = _; rw [if_pos (Or.inl h33)]; omega
      refine ih (o ++ [6000]) _ _ ⟨(((hm.i 24 (by decide) _).a 22 (by decide) _).i 25 (by decide) _).i 26 (by decide) _, h21, h14, hpn, by rw [hol]; rfl, ?_, ?_, hst.2.2, h2o.1, h2o.2, ?_⟩ (fun I2 A2 h => ?_)
      · refine (show I1 25 - 1 = nI W.length from ?_)
        rw [h25]
        exact nI_pred _
      · refine (show I1 26 - 1 = nI (sp_op W) from ?_)
        rw [show I1 26 = nI (sp_op W + 1) from h26.trans (congrArg nI hop)]
        exact nI_pred _
      · rw [hol]; omega
      · have h2 := k I2 A2
        rw [show sp_wW (x :: W) = sp_wW W from if_pos h33, show sp_wE (x :: W) = 6000 :: sp_wE W from if_pos h33] at h2
        rw [List.append_assoc] at h
        exact h2 h
set_option maxRecDepth 4000 in
theorem c_Mo_settle {n s0 c f : Nat} {p s : Nat} (hD : 1 ≤ D) (hf : f ≤ 5) (hn : n ≤ 100) (hs0 : 100 * f ≤ s0) (hs128 : s < 128) : ∀ (W o : List Nat) (I1 : Nat → Int32) (A1 : Nat → Nat → Int32), mo_R I A I1 A1 n s0 c f p W o → (∀ (I2 : Nat → Int32) (A2 : Nat → Nat → Int32), mo_R I A I2 A2 n s0 c f p (sp_sW s W) (o ++ sp_sE s W) → Q none (HM X I2 A2 L E)) → px_W G D 0 0 m_Mo_settle 0 [some (.ref X.length), some (.int (nI s))] [] (HM X I1 A1 L E) Q := by
  intro W
  induction W with
  | nil =>
    intro o I1 A1 hR k
    have h25 : I1 25 = nI 0 := hR.2.2.2.2.2.1
    refine wp_aload_n d_Mo_settle_0 rfl rfl rfl ?_
    refine gM_25 rfl d_Mo_settle_1 ?_
    rw [h25]
    refine wp_if_le (t := 72) d_Mo_settle_4 (by decide) (fun c_4 => ?_) (fun c_4 => absurd (by decide) c_4)
    refine wp_return d_Mo_settle_72 rfl ?_
    have h2 := k I1 A1
    rw [show o ++ sp_sE s [] = o from List.append_nil o] at h2
    exact h2 hR
  | cons x W ih =>
    intro o I1 A1 hR k
    have hR0 := hR
    obtain ⟨hm, h21, h14, hpn, h24, h25, h26, hst, hs1, ho, hle⟩ := hR
    have hlc : (x :: W).length = W.length + 1 := rfl
    rw [hlc] at h25 hle
    have hxx : A1 23 W.length = nI x := hst.1
    have hx128 := hst.2.1
    have hstop : ¬ (x = 38 ∨ (x = 124 ∧ s ≠ 38)) → Q none (HM X I1 A1 L E) := by
      intro hc
      have h2 := k I1 A1
      rw [show sp_sW s (x :: W) = x :: W from if_neg hc, show sp_sE s (x :: W) = [] from if_neg hc, List.append_nil] at h2
      exact h2 hR0
    have hgo : (x = 38 ∨ (x = 124 ∧ s ≠ 38)) → px_W G D 0 0 m_Mo_settle 45 [some (.ref X.length), some (.int (nI s))] [] (HM X I1 A1 L E) Q := by
      intro hc
      refine wp_aload_n d_Mo_settle_45 rfl rfl rfl ?_
      refine wp_dup d_Mo_settle_46 rfl ?_
      refine gM_25 rfl d_Mo_settle_47 ?_
      refine wp_iconst (v := 1) d_Mo_settle_50 rfl ?_
      refine wp_isub d_Mo_settle_51 ?_
      refine pM_25 rfl d_Mo_settle_52 ?_
      refine wp_aload_n d_Mo_settle_55 rfl rfl rfl ?_
      refine wp_aload_n d_Mo_settle_56 rfl rfl rfl ?_
      refine gM_23 rfl d_Mo_settle_57 ?_
      refine wp_aload_n d_Mo_settle_60 rfl rfl rfl ?_
      refine gM_25 rfl d_Mo_settle_61 ?_
      rw [show upd I1 25 (I1 25 - 1) 25 = nI W.length from (congrArg (· - 1) h25).trans (nI_pred _)]
      refine lM_23 d_Mo_settle_64 (vp_in_nI (by omega) (by decide)) ?_
      rw [nI_clamp (by omega), show (A1 23 W.length) = nI x from hxx]
      refine wp_ineg d_Mo_settle_65 ?_
      refine wp_callV (r := (R_12, T_12, 70)) (M' := m_Mo_emits) (as := [_]) (D' := D - 1) (C1 := 0) (C2 := 0) (S1 := 0) (S2 := 0) d_Mo_settle_66 rfl w_1289 w_1291 w_30 hm_0 k_Mo_emits (Nat.le_of_ble_eq_true rfl) rfl (Nat.le_of_ble_eq_true rfl) (by omega) rfl rfl ?_
      refine c_Mo_emits (by omega) (sg := s0 + o.length) h24 (by omega) ?_
      refine wp_goto (t := 0) d_Mo_settle_69 (by decide) ?_
      have henc : -nI x = mo_enc (if x = 38 then 6001 else 6002) := by
        rcases hc with h | h
        · rw [if_pos h, h]; decide
        · rw [if_neg (by omega), h.1]; decide
      have h2o := mo_out hs1 ho henc
      have hol : (o ++ [if x = 38 then 6001 else 6002]).length = o.length + 1 := by rw [List.length_append]; rfl
      have hop : sp_op (x :: W) = sp_op W := by show (if x = 33 ∨ x = 40 then 1 else 0) + sp_op W = _; rw [if_neg (by omega)]; omega
      refine ih (o ++ [if x = 38 then 6001 else 6002]) (upd (upd I1 25 (I1 25 - 1)) 24 (nI (s0 + o.length + 1))) (va_up A1 22 (upd (A1 22) (s0 + o.length) (-nI x))) ⟨?_, h21, h14, hpn, by rw [hol]; rfl, ?_, ?_, hst.2.2, h2o.1, h2o.2, ?_⟩ (fun I2 A2 h => ?_)
      · exact (((hR0.1).i 25 (by decide) _).i 24 (by decide) _).a 22 (by decide) _
      · refine (show I1 25 - 1 = nI W.length from ?_)
        rw [show I1 25 = nI (W.length + 1) from h25]
        exact nI_pred _
      · exact h26.trans (congrArg nI hop)
      · rw [hol]; omega
      · have h2 := k I2 A2
        rw [show sp_sW s (x :: W) = sp_sW s W from if_pos hc, show sp_sE s (x :: W) = (if x = 38 then 6001 else 6002) :: sp_sE s W from if_pos hc] at h2
        rw [List.append_assoc] at h
        exact h2 h
    refine wp_aload_n d_Mo_settle_0 rfl rfl rfl ?_
    refine gM_25 rfl d_Mo_settle_1 ?_
    rw [h25]
    refine wp_if_le (t := 72) d_Mo_settle_4 (by decide) (fun c_4 => absurd c_4 (nI_nle (by omega) (by omega))) (fun c_4 => ?_)
    refine wp_aload_n d_Mo_settle_7 rfl rfl rfl ?_
    refine gM_23 rfl d_Mo_settle_8 ?_
    refine wp_aload_n d_Mo_settle_11 rfl rfl rfl ?_
    refine gM_25 rfl d_Mo_settle_12 ?_
    refine wp_iconst (v := 1) d_Mo_settle_15 rfl ?_
    refine wp_isub d_Mo_settle_16 ?_
    rw [h25, nI_pred]
    refine lM_23 d_Mo_settle_17 (vp_in_nI (by omega) (by decide)) ?_
    rw [nI_clamp (by omega), hxx]
    refine wp_bipush (v := 38) d_Mo_settle_18 (by decide) ?_
    refine wp_icmp_eq (t := 45) d_Mo_settle_20 (by decide) (fun c_20 => ?_) (fun c_20 => ?_)
    · skip
      refine hgo ?_
      first
        | exact Or.inl ((nI_eq (b := 38) (by omega) (by decide)).mp c_20)
        | exact Or.inr ⟨(nI_eq (b := 124) (by omega) (by decide)).mp c_36, fun e => c_42 (by rw [e]; rfl)⟩
    · skip
      refine wp_aload_n d_Mo_settle_23 rfl rfl rfl ?_
      refine gM_23 rfl d_Mo_settle_24 ?_
      refine wp_aload_n d_Mo_settle_27 rfl rfl rfl ?_
      refine gM_25 rfl d_Mo_settle_28 ?_
      refine wp_iconst (v := 1) d_Mo_settle_31 rfl ?_
      refine wp_isub d_Mo_settle_32 ?_
      rw [h25, nI_pred]
      refine lM_23 d_Mo_settle_33 (vp_in_nI (by omega) (by decide)) ?_
      rw [nI_clamp (by omega), hxx]
      refine wp_bipush (v := 124) d_Mo_settle_34 (by decide) ?_
      refine wp_icmp_ne (t := 72) d_Mo_settle_36 (by decide) (fun c_36 => ?_) (fun c_36 => ?_)
      · skip
        refine wp_return d_Mo_settle_72 rfl ?_
        refine hstop (fun hc => ?_)
        rcases hc with h | h
        · exact c_20 (by rw [h]; rfl)
        · first
            | exact c_36 (by rw [h.1]; rfl)
            | exact h.2 ((nI_eq (b := 38) (by omega) (by decide)).mp c_42)
      · skip
        refine wp_iload_n d_Mo_settle_39 rfl rfl ?_
        refine wp_bipush (v := 38) d_Mo_settle_40 (by decide) ?_
        refine wp_icmp_eq (t := 72) d_Mo_settle_42 (by decide) (fun c_42 => ?_) (fun c_42 => ?_)
        · skip
          refine wp_return d_Mo_settle_72 rfl ?_
          refine hstop (fun hc => ?_)
          rcases hc with h | h
          · exact c_20 (by rw [h]; rfl)
          · first
              | exact c_36 (by rw [h.1]; rfl)
              | exact h.2 ((nI_eq (b := 38) (by omega) (by decide)).mp c_42)
        · skip
          refine hgo ?_
          first
            | exact Or.inl ((nI_eq (b := 38) (by omega) (by decide)).mp c_20)
            | exact Or.inr ⟨(nI_eq (b := 124) (by omega) (by decide)).mp c_36, fun e => c_42 (by rw [e]; rfl)⟩
set_option maxRecDepth 4000 in
theorem c_Mo_takesTest {T : Nat → Nat} {n s0 c f : Nat} {I1 : Nat → Int32} {A1 : Nat → Nat → Int32} {p : Nat} {W o : List Nat} (hD : 3 ≤ D) (hf : f ≤ 5) (hn : n ≤ 100) (hs0 : 100 * f ≤ s0) (hx : mo_tx I A T n) (hR : mo_R I A I1 A1 n s0 c f p W o) (kt : ∀ t p', sp_test T n p = (some t, p') → ∀ (I2 : Nat → Int32) (A2 : Nat → Nat → Int32), mo_R I A I2 A2 n s0 c f p' (sp_wW W) (o ++ [t] ++ sp_wE W) → Q (some (.int 1)) (HM X I2 A2 L E)) (kf : ∀ p', sp_test T n p = (none, p') → ∀ (I2 : Nat → Int32) (A2 : Nat → Nat → Int32), mo_F I A I2 A2 s0 c p' → Q (some (.int 0)) (HM X I2 A2 L E)) : px_W G D 0 0 m_Mo_takesTest 0 (px_ent 3 [.ref X.length]) [] (HM X I1 A1 L E) Q := by
  have hR0 := hR
  obtain ⟨hm, h21, h14, hpn, h24, h25, h26, hst, hs1, ho, hle⟩ := hR
  have hx1 : mo_tx I1 A1 T n := hx.ms hm (by decide) (by decide)
  have hl := sp_la_let (p := p) hx1
  show px_W _ _ _ _ _ _ [some (.ref X.length), none, none] [] _ _
  cases hc : (if p < n then sp_let (T p) else none) with
  | none =>
    simp only [hc] at hl
    have hf0 : sp_test T n p = (none, p) := by rw [sp_test, hc]
    refine wp_aload_n d_Mo_takesTest_0 rfl rfl rfl ?_
    refine wp_aload_n d_Mo_takesTest_1 rfl rfl rfl ?_
    refine wp_callV (r := (R_12, T_12, 70)) (M' := m_Mo_next) (as := []) (D' := D - 1) (C1 := 0) (C2 := 0) (S1 := 0) (S2 := 0) d_Mo_takesTest_2 rfl w_1253 w_1255 w_21 hm_0 k_Mo_next (Nat.le_of_ble_eq_true rfl) rfl (Nat.le_of_ble_eq_true rfl) (by omega) rfl rfl ?_
    refine c_Mo_next (by omega) hx1 h14 (by omega) ?_
    refine wp_callV (r := (R_12, T_12, 70)) (M' := m_Mo_letterAt) (as := [_]) (D' := D - 1) (C1 := 0) (C2 := 0) (S1 := 0) (S2 := 0) d_Mo_takesTest_5 rfl w_1285 w_1287 w_29 hm_0 k_Mo_letterAt (Nat.le_of_ble_eq_true rfl) rfl (Nat.le_of_ble_eq_true rfl) (by omega) rfl rfl ?_
    refine c_Mo_letterAt (by omega)  ?_
    rw [hl]
    refine wp_istore_n (ls' := [_, _, _]) d_Mo_takesTest_8 rfl (by decide) rfl ?_
    refine wp_iload_n d_Mo_takesTest_9 rfl rfl ?_
    refine wp_if_ge (t := 15) d_Mo_takesTest_10 (by decide) (fun c_10 => absurd c_10 (by decide)) (fun c_10 => ?_)
    refine wp_iconst (v := 0) d_Mo_takesTest_13 rfl ?_
    refine wp_ireturn d_Mo_takesTest_14 rfl rfl ?_
    exact kf p hf0 _ _ ⟨hm, h21, h14, hs1⟩
  | some g =>
    simp only [hc] at hl
    have hg := hl.2
    have hp1 : p < n := by
      by_cases h : p < n
      · exact h
      · rw [if_neg h] at hc; cases hc
    have hx2 : mo_tx (upd I1 14 (nI (p + 1))) A1 T n := hx1.ms ((ms.rf (SI := [14]) (SA := [])).i 14 (by decide) _) (by decide) (by decide)
    have hx3 : mo_tx (upd (upd I1 14 (nI (p + 1))) 14 (nI (p + 2))) A1 T n := hx2.ms ((ms.rf (SI := [14]) (SA := [])).i 14 (by decide) _) (by decide) (by decide)
    have e1000 : (1000 : Int32) * nI g = nI (1000 * g) := pk_mul 1000 g
    refine wp_aload_n d_Mo_takesTest_0 rfl rfl rfl ?_
    refine wp_aload_n d_Mo_takesTest_1 rfl rfl rfl ?_
    refine wp_callV (r := (R_12, T_12, 70)) (M' := m_Mo_next) (as := []) (D' := D - 1) (C1 := 0) (C2 := 0) (S1 := 0) (S2 := 0) d_Mo_takesTest_2 rfl w_1253 w_1255 w_21 hm_0 k_Mo_next (Nat.le_of_ble_eq_true rfl) rfl (Nat.le_of_ble_eq_true rfl) (by omega) rfl rfl ?_
    refine c_Mo_next (by omega) hx1 h14 (by omega) ?_
    refine wp_callV (r := (R_12, T_12, 70)) (M' := m_Mo_letterAt) (as := [_]) (D' := D - 1) (C1 := 0) (C2 := 0) (S1 := 0) (S2 := 0) d_Mo_takesTest_5 rfl w_1285 w_1287 w_29 hm_0 k_Mo_letterAt (Nat.le_of_ble_eq_true rfl) rfl (Nat.le_of_ble_eq_true rfl) (by omega) rfl rfl ?_
    refine c_Mo_letterAt (by omega)  ?_
    rw [hl.1]
    refine wp_istore_n (ls' := [_, _, _]) d_Mo_takesTest_8 rfl (by decide) rfl ?_
    refine wp_iload_n d_Mo_takesTest_9 rfl rfl ?_
    refine wp_if_ge (t := 15) d_Mo_takesTest_10 (by decide) (fun c_10 => ?_) (fun c_10 => absurd (nI_pos' (by omega)) c_10)
    refine wp_aload_n d_Mo_takesTest_15 rfl rfl rfl ?_
    refine wp_dup d_Mo_takesTest_16 rfl ?_
    refine gM_14 rfl d_Mo_takesTest_17 ?_
    refine wp_iconst (v := 1) d_Mo_takesTest_20 rfl ?_
    refine wp_iadd d_Mo_takesTest_21 ?_
    refine pM_14 rfl d_Mo_takesTest_22 ?_
    rw [h14, nI_1]
    refine wp_aload_n d_Mo_takesTest_25 rfl rfl rfl ?_
    refine wp_callV (r := (R_12, T_12, 70)) (M' := m_Mo_next) (as := []) (D' := D - 1) (C1 := 0) (C2 := 0) (S1 := 0) (S2 := 0) d_Mo_takesTest_26 rfl w_1253 w_1255 w_21 hm_0 k_Mo_next (Nat.le_of_ble_eq_true rfl) rfl (Nat.le_of_ble_eq_true rfl) (by omega) rfl rfl ?_
    refine c_Mo_next (by omega) hx2 rfl (by omega) ?_
    refine wp_istore_n (ls' := [_, _, _]) d_Mo_takesTest_29 rfl (by decide) rfl ?_
    refine wp_aload_n d_Mo_takesTest_30 rfl rfl rfl ?_
    refine wp_iload_n d_Mo_takesTest_31 rfl rfl ?_
    refine wp_bipush (v := 60) d_Mo_takesTest_32 (by decide) ?_
    refine wp_bipush (v := 62) d_Mo_takesTest_34 (by decide) ?_
    refine wp_callV (r := (R_12, T_12, 70)) (M' := m_Mo_in) (as := [_, _, _]) (D' := D - 1) (C1 := 0) (C2 := 0) (S1 := 0) (S2 := 0) d_Mo_takesTest_36 rfl w_1209 w_1211 w_15 hm_0 k_Mo_in (Nat.le_of_ble_eq_true rfl) rfl (Nat.le_of_ble_eq_true rfl) (by omega) rfl rfl ?_
    refine c_Mo_in (by omega)  (fun c_36 => ?_) (fun c_36 => ?_)
    · skip
      refine wp_if_ne (t := 44) d_Mo_takesTest_39 (by decide) (fun c_39 => ?_) (fun c_39 => (absurd c_39 (by decide)))
      refine wp_aload_n d_Mo_takesTest_44 rfl rfl rfl ?_
      refine wp_dup d_Mo_takesTest_45 rfl ?_
      refine gM_14 rfl d_Mo_takesTest_46 ?_
      refine wp_iconst (v := 1) d_Mo_takesTest_49 rfl ?_
      refine wp_iadd d_Mo_takesTest_50 ?_
      refine pM_14 rfl d_Mo_takesTest_51 ?_
      rw [show upd I1 14 (nI (p + 1)) 14 = nI (p + 1) from rfl, nI_1]
      have hd1 := (sp_nx_dg (a := 60) (b := 62) hx2 (by decide) (by decide)).mp c_36
      refine wp_aload_n d_Mo_takesTest_54 rfl rfl rfl ?_
      refine wp_callV (r := (R_12, T_12, 70)) (M' := m_Mo_takesNumber) (as := []) (D' := D - 1) (C1 := 0) (C2 := 0) (S1 := 0) (S2 := 0) d_Mo_takesTest_55 rfl w_1269 w_1271 w_25 hm_0 k_Mo_takesNumber (Nat.le_of_ble_eq_true rfl) rfl (Nat.le_of_ble_eq_true rfl) (by omega) rfl rfl ?_
      refine c_Mo_takesNumber (by omega) hx3 rfl (by omega) (fun d p' c_55 I3 hm3 e14 e15 => ?_) (fun c_55 => ?_)
      · skip
        have hb := sp_num_b c_55
        have e24 : I3 24 = I1 24 := hm3.1 24 (by decide)
        have e25 : I3 25 = I1 25 := hm3.1 25 (by decide)
        have e26 : I3 26 = I1 26 := hm3.1 26 (by decide)
        have hmm : ms [14, 15, 24, 25, 26] [21, 22, 23] I I3 A A1 := ((hm.i 14 (by decide) _).i 14 (by decide) _).tr (hm3.mo (by decide) (by decide))
        have hRn : mo_R I A I3 A1 n s0 c f p' W o := ⟨hmm, h21, e14, hb.2.2, e24.trans h24, e25.trans h25, e26.trans h26, hst, hs1, ho, by omega⟩
        have hR3 := hRn.out (t := 1000 * g + 100 * (T (p + 1) - 60) + d) (x := nI (1000 * g + 100 * (T (p + 1) - 60) + d)) (mo_enc_t (by omega)).symm (by omega)
        have e100 : nI (1000 * g) + (100 : Int32) * (sp_nx T n (p + 1) - 60) + nI d = nI (1000 * g + 100 * (T (p + 1) - 60) + d) := by
          rw [sp_nx_v hd1.1, show nI (T (p + 1)) - (60 : Int32) = nI (T (p + 1) - 60) from pk_sub (b := 60) (by omega), show (100 : Int32) * nI (T (p + 1) - 60) = nI (100 * (T (p + 1) - 60)) from pk_mul 100 _, nI_add, nI_add]
        refine wp_if_ne (t := 63) d_Mo_takesTest_58 (by decide) (fun c_58 => ?_) (fun c_58 => (absurd c_58 (by decide)))
        refine wp_aload_n d_Mo_takesTest_63 rfl rfl rfl ?_
        refine wp_sipush (v := 1000) d_Mo_takesTest_64 (by decide) ?_
        refine wp_iload_n d_Mo_takesTest_67 rfl rfl ?_
        refine wp_imul d_Mo_takesTest_68 ?_
        refine wp_bipush (v := 100) d_Mo_takesTest_69 (by decide) ?_
        refine wp_iload_n d_Mo_takesTest_71 rfl rfl ?_
        refine wp_bipush (v := 60) d_Mo_takesTest_72 (by decide) ?_
        refine wp_isub d_Mo_takesTest_74 ?_
        refine wp_imul d_Mo_takesTest_75 ?_
        refine wp_iadd d_Mo_takesTest_76 ?_
        refine wp_aload_n d_Mo_takesTest_77 rfl rfl rfl ?_
        refine gM_15 rfl d_Mo_takesTest_78 ?_
        refine wp_iadd d_Mo_takesTest_81 ?_
        rw [e15, e1000, e100]
        refine wp_callV (r := (R_12, T_12, 70)) (M' := m_Mo_emits) (as := [_]) (D' := D - 1) (C1 := 0) (C2 := 0) (S1 := 0) (S2 := 0) d_Mo_takesTest_82 rfl w_1289 w_1291 w_30 hm_0 k_Mo_emits (Nat.le_of_ble_eq_true rfl) rfl (Nat.le_of_ble_eq_true rfl) (by omega) rfl rfl ?_
        refine c_Mo_emits (by omega) (sg := s0 + o.length) (e24.trans h24) (by omega) ?_
        refine wp_aload_n d_Mo_takesTest_85 rfl rfl rfl ?_
        refine wp_callV (r := (R_12, T_12, 70)) (M' := m_Mo_whole) (as := []) (D' := D - 1) (C1 := 0) (C2 := 0) (S1 := 0) (S2 := 0) d_Mo_takesTest_86 rfl w_1293 w_1295 w_31 hm_0 k_Mo_whole (Nat.le_of_ble_eq_true rfl) rfl (Nat.le_of_ble_eq_true rfl) (by omega) rfl rfl ?_
        refine c_Mo_whole (by omega) hf hn hs0 W (o ++ [1000 * g + 100 * (T (p + 1) - 60) + d]) _ _ hR3 (fun I2 A2 hR4 => ?_)
        refine wp_iconst (v := 1) d_Mo_takesTest_89 rfl ?_
        refine wp_ireturn d_Mo_takesTest_90 rfl rfl ?_
        refine kt _ p' ?_ I2 A2 hR4
        simp only [sp_test, hc]
        rw [if_pos hd1]
        simp only [c_55]
      · skip
        refine wp_if_ne (t := 63) d_Mo_takesTest_58 (by decide) (fun c_58 => (absurd c_58 (by decide))) (fun c_58 => ?_)
        refine wp_iconst (v := 0) d_Mo_takesTest_61 rfl ?_
        refine wp_ireturn d_Mo_takesTest_62 rfl rfl ?_
        refine kf (p + 2) ?_ _ _ ⟨(hm.i 14 (by decide) _).i 14 (by decide) _, h21, rfl, hs1⟩
        simp only [sp_test, hc]
        rw [if_pos hd1, sp_num, if_neg c_55]
    · skip
      refine wp_if_ne (t := 44) d_Mo_takesTest_39 (by decide) (fun c_39 => (absurd c_39 (by decide))) (fun c_39 => ?_)
      refine wp_iconst (v := 0) d_Mo_takesTest_42 rfl ?_
      refine wp_ireturn d_Mo_takesTest_43 rfl rfl ?_
      have hd1 : ¬ (p + 1 < n ∧ 60 ≤ T (p + 1) ∧ T (p + 1) ≤ 62) := fun h => c_36 ((sp_nx_dg (a := 60) (b := 62) hx2 (by decide) (by decide)).mpr h)
      refine kf (p + 1) ?_ _ _ ⟨hm.i 14 (by decide) _, h21, rfl, hs1⟩
      simp only [sp_test, hc]
      rw [if_neg hd1]
end MOK
