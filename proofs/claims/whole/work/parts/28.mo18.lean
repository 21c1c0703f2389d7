/-! READING A TEXT: signs T, n of them; an answer with the place behind it, or none with the fault -/
abbrev sp_is (T : Nat → Nat) (n p c : Nat) : Prop := p < n ∧ T p = c
abbrev sp_dg (T : Nat → Nat) (n p : Nat) : Prop := p < n ∧ 48 ≤ T p ∧ T p ≤ 57
def sp_num (T : Nat → Nat) (n p : Nat) : Option Nat × Nat :=
  if sp_dg T n p then (if sp_dg T n (p + 1) then (some (10 * (T p - 48) + (T (p + 1) - 48)), p + 2) else (some (T p - 48), p + 1)) else (none, p)
def sp_let (c : Nat) : Option Nat := if c = 109 then some 0 else if c = 107 then some 1 else if c = 108 then some 2 else if c = 104 then some 3 else if c = 116 then some 4 else if c = 118 then some 5 else none
def sp_nx (T : Nat → Nat) (n p : Nat) : Int32 := if p < n then nI (T p) else -1
def mo_tx (I : Nat → Int32) (A : Nat → Nat → Int32) (T : Nat → Nat) (n : Nat) : Prop := I 13 = nI n ∧ n ≤ 100 ∧ ∀ j, j < n → T j < 128 ∧ A 16 j = nI (T j)
theorem mo_tx.ms {SI SA : List Nat} {I I' : Nat → Int32} {A A' : Nat → Nat → Int32} {T : Nat → Nat} {n : Nat} (h : mo_tx I A T n) (hm : ms SI SA I I' A A') (h1 : 13 ∉ SI) (h2 : 16 ∉ SA) : mo_tx I' A' T n := by
  refine ⟨(hm.1 13 h1).trans h.1, h.2.1, ?_⟩
  rw [hm.2 16 h2]
  exact h.2.2
theorem sp_nx_is {I : Nat → Int32} {A : Nat → Nat → Int32} {T : Nat → Nat} {n p c : Nat} (hx : mo_tx I A T n) (hc : c < 128) : sp_nx T n p = nI c ↔ sp_is T n p c := by
  unfold sp_nx
  by_cases h : p < n
  · rw [if_pos h]
    have := (hx.2.2 p h).1
    rw [nI_eq (by omega) (by omega)]
    exact ⟨fun e => ⟨h, e⟩, fun e => e.2⟩
  · rw [if_neg h]
    refine ⟨fun e => ?_, fun e => absurd e.1 h⟩
    have h0 : (0 : Int32) ≤ nI c := nI_pos' (by omega)
    rw [← e] at h0
    exact absurd h0 (by decide)
theorem sp_nx_dg {I : Nat → Int32} {A : Nat → Nat → Int32} {T : Nat → Nat} {n p a b : Nat} (hx : mo_tx I A T n) (ha : a < 128) (hb : b < 128) : (nI a ≤ sp_nx T n p ∧ sp_nx T n p ≤ nI b) ↔ (p < n ∧ a ≤ T p ∧ T p ≤ b) := by
  unfold sp_nx
  by_cases h : p < n
  · rw [if_pos h]
    have := (hx.2.2 p h).1
    rw [nI_leI (by omega) (by omega), nI_leI (by omega) (by omega)]
    exact ⟨fun e => ⟨h, e⟩, fun e => e.2⟩
  · rw [if_neg h]
    refine ⟨fun e => ?_, fun e => absurd e.1 h⟩
    have h0 : (0 : Int32) ≤ nI a := nI_pos' (by omega)
    exact absurd (Int32.le_trans h0 e.1) (by decide)
theorem sp_nx_v {T : Nat → Nat} {n p : Nat} (h : p < n) : sp_nx T n p = nI (T p) := if_pos h
def sp_la (v : Int32) : Int32 := if v = 109 then 0 else if v = 107 then 1 else if v = 108 then 2 else if v = 104 then 3 else if v = 116 then 4 else if v = 118 then 5 else -1
theorem sp_la_let {I : Nat → Int32} {A : Nat → Nat → Int32} {T : Nat → Nat} {n p : Nat} (hx : mo_tx I A T n) : (match (if p < n then sp_let (T p) else none) with | some f => sp_la (sp_nx T n p) = nI f ∧ f < 6 | none => sp_la (sp_nx T n p) = -1) := by
  have k (c : Nat) (hc : c < 128) := sp_nx_is (p := p) hx hc
  have k109 : sp_nx T n p = 109 ↔ (p < n ∧ T p = 109) := k 109 (by decide)
  have k107 : sp_nx T n p = 107 ↔ (p < n ∧ T p = 107) := k 107 (by decide)
  have k108 : sp_nx T n p = 108 ↔ (p < n ∧ T p = 108) := k 108 (by decide)
  have k104 : sp_nx T n p = 104 ↔ (p < n ∧ T p = 104) := k 104 (by decide)
  have k116 : sp_nx T n p = 116 ↔ (p < n ∧ T p = 116) := k 116 (by decide)
  have k118 : sp_nx T n p = 118 ↔ (p < n ∧ T p = 118) := k 118 (by decide)
  by_cases h : p < n
  · rw [if_pos h]
    simp only [h, true_and] at k109 k107 k108 k104 k116 k118
    unfold sp_let sp_la
    simp only [k109, k107, k108, k104, k116, k118]
    by_cases h1 : T p = 109
    · simp only [if_pos h1]; exact ⟨rfl, by decide⟩
    · simp only [if_neg h1]
      by_cases h2 : T p = 107
      · simp only [if_pos h2]; exact ⟨rfl, by decide⟩
      · simp only [if_neg h2]
        by_cases h3 : T p = 108
        · simp only [if_pos h3]; exact ⟨rfl, by decide⟩
        · simp only [if_neg h3]
          by_cases h4 : T p = 104
          · simp only [if_pos h4]; exact ⟨rfl, by decide⟩
          · simp only [if_neg h4]
            by_cases h5 : T p = 116
            · simp only [if_pos h5]; exact ⟨rfl, by decide⟩
            · simp only [if_neg h5]
              by_cases h6 : T p = 118
              · simp only [if_pos h6]; exact ⟨rfl, by decide⟩
              · simp only [if_neg h6]
  · rw [if_neg h]
    simp only [h, false_and, iff_false] at k109 k107 k108 k104 k116 k118
    show sp_la (sp_nx T n p) = -1
    unfold sp_la
    rw [if_neg k109, if_neg k107, if_neg k108, if_neg k104, if_neg k116, if_neg k118]
section MOI
variable {G : px_G} {D : Nat} {X E : px_H} {I : Nat → Int32} {A : Nat → Nat → Int32} {L : Nat → Nat → Int64} {Q : Option Value → px_H → Prop}
set_option maxRecDepth 4000 in
theorem c_Mo_next {T : Nat → Nat} {n p : Nat} (hD : 0 ≤ D) (hx : mo_tx I A T n) (hp : I 14 = nI p) (hp1 : p ≤ 1000) (k : Q (some (.int (sp_nx T n p))) (HM X I A L E)) : px_W G D 0 0 m_Mo_next 0 (px_ent 1 [.ref X.length]) [] (HM X I A L E) Q := by
  show px_W _ _ _ _ _ _ [some (.ref X.length)] [] _ _
  refine wp_aload_n d_Mo_next_0 rfl rfl rfl ?_
  refine gM_14 rfl d_Mo_next_1 ?_
  refine wp_aload_n d_Mo_next_4 rfl rfl rfl ?_
  refine gM_13 rfl d_Mo_next_5 ?_
  refine wp_icmp_ge (t := 23) d_Mo_next_8 (by decide) (fun c_8 => ?_) (fun c_8 => ?_)
  · skip
    refine wp_iconst (v := (-1)) d_Mo_next_23 rfl ?_
    refine wp_ireturn d_Mo_next_24 rfl rfl ?_
    first
      | (have hc : p < n := by
          have c := Int32.not_le.mp c_8
          rw [hp, hx.1] at c
          exact (nI_ltI (by omega) (by have := hx.2.1; omega)).mp c
         rw [sp_nx, if_pos hc, ← (hx.2.2 p hc).2] at k
         rw [hp, nI_clamp (by omega)]
         exact k)
      | (have hc : ¬ p < n := by
          rw [hp, hx.1] at c_8
          have := (nI_leI (by have := hx.2.1; omega) (by omega)).mp c_8
          omega
         rw [sp_nx, if_neg hc] at k
         exact k)
  · skip
    refine wp_aload_n d_Mo_next_11 rfl rfl rfl ?_
    refine gM_16 rfl d_Mo_next_12 ?_
    refine wp_aload_n d_Mo_next_15 rfl rfl rfl ?_
    refine gM_14 rfl d_Mo_next_16 ?_
    refine lM_16 d_Mo_next_19 (by have hn := hx.2.1; have c := Int32.not_le.mp c_8; rw [hp, hx.1] at c; have hc := (nI_ltI (by omega) (by omega)).mp c; rw [hp]; exact vp_in_nI (by omega) (by decide)) ?_
    refine wp_goto (t := 24) d_Mo_next_20 (by decide) ?_
    refine wp_ireturn d_Mo_next_24 rfl rfl ?_
    first
      | (have hc : p < n := by
          have c := Int32.not_le.mp c_8
          rw [hp, hx.1] at c
          exact (nI_ltI (by omega) (by have := hx.2.1; omega)).mp c
         rw [sp_nx, if_pos hc, ← (hx.2.2 p hc).2] at k
         rw [hp, nI_clamp (by omega)]
         exact k)
      | (have hc : ¬ p < n := by
          rw [hp, hx.1] at c_8
          have := (nI_leI (by have := hx.2.1; omega) (by omega)).mp c_8
          omega
         rw [sp_nx, if_neg hc] at k
         exact k)
set_option maxRecDepth 4000 in
theorem c_Mo_second {T : Nat → Nat} {n p : Nat} (hD : 0 ≤ D) (hx : mo_tx I A T n) (hp : I 14 = nI p) (hp1 : p ≤ 1000) (k : Q (some (.int (sp_nx T n (p + 1)))) (HM X I A L E)) : px_W G D 0 0 m_Mo_second 0 (px_ent 1 [.ref X.length]) [] (HM X I A L E) Q := by
  show px_W _ _ _ _ _ _ [some (.ref X.length)] [] _ _
  refine wp_aload_n d_Mo_second_0 rfl rfl rfl ?_
  refine gM_14 rfl d_Mo_second_1 ?_
  refine wp_iconst (v := 1) d_Mo_second_4 rfl ?_
  refine wp_iadd d_Mo_second_5 ?_
  rw [hp, nI_1]
  refine wp_aload_n d_Mo_second_6 rfl rfl rfl ?_
  refine gM_13 rfl d_Mo_second_7 ?_
  refine wp_icmp_ge (t := 27) d_Mo_second_10 (by decide) (fun c_10 => ?_) (fun c_10 => ?_)
  · skip
    refine wp_iconst (v := (-1)) d_Mo_second_27 rfl ?_
    refine wp_ireturn d_Mo_second_28 rfl rfl ?_
    first
      | (have hc : p + 1 < n := by
          have c := Int32.not_le.mp c_10
          rw [hx.1] at c
          exact (nI_ltI (by omega) (by have := hx.2.1; omega)).mp c
         rw [sp_nx, if_pos hc, ← (hx.2.2 (p + 1) hc).2] at k
         rw [nI_clamp (by omega)]
         exact k)
      | (have hc : ¬ p + 1 < n := by
          rw [hx.1] at c_10
          have := (nI_leI (by have := hx.2.1; omega) (by omega)).mp c_10
          omega
         rw [sp_nx, if_neg hc] at k
         exact k)
  · skip
    refine wp_aload_n d_Mo_second_13 rfl rfl rfl ?_
    refine gM_16 rfl d_Mo_second_14 ?_
    refine wp_aload_n d_Mo_second_17 rfl rfl rfl ?_
    refine gM_14 rfl d_Mo_second_18 ?_
    refine wp_iconst (v := 1) d_Mo_second_21 rfl ?_
    refine wp_iadd d_Mo_second_22 ?_
    rw [hp, nI_1]
    refine lM_16 d_Mo_second_23 (by have hn := hx.2.1; have c := Int32.not_le.mp c_10; rw [hx.1] at c; have hc := (nI_ltI (by omega) (by omega)).mp c; exact vp_in_nI (by omega) (by decide)) ?_
    refine wp_goto (t := 28) d_Mo_second_24 (by decide) ?_
    refine wp_ireturn d_Mo_second_28 rfl rfl ?_
    first
      | (have hc : p + 1 < n := by
          have c := Int32.not_le.mp c_10
          rw [hx.1] at c
          exact (nI_ltI (by omega) (by have := hx.2.1; omega)).mp c
         rw [sp_nx, if_pos hc, ← (hx.2.2 (p + 1) hc).2] at k
         rw [nI_clamp (by omega)]
         exact k)
      | (have hc : ¬ p + 1 < n := by
          rw [hx.1] at c_10
          have := (nI_leI (by have := hx.2.1; omega) (by omega)).mp c_10
          omega
         rw [sp_nx, if_neg hc] at k
         exact k)
set_option maxRecDepth 4000 in
theorem c_Mo_takes {T : Nat → Nat} {n p : Nat} {c : Nat} (hD : 1 ≤ D) (hx : mo_tx I A T n) (hp : I 14 = nI p) (hp1 : p ≤ 1000) (hc : c < 128) (kt : sp_is T n p c → Q (some (.int 1)) (HM X (upd I 14 (nI (p + 1))) A L E)) (kf : ¬ sp_is T n p c → Q (some (.int 0)) (HM X I A L E)) : px_W G D 0 0 m_Mo_takes 0 (px_ent 2 [.ref X.length, .int (nI c)]) [] (HM X I A L E) Q := by
  show px_W _ _ _ _ _ _ [some (.ref X.length), some (.int (nI c))] [] _ _
  refine wp_aload_n d_Mo_takes_0 rfl rfl rfl ?_
  refine wp_callV (r := (R_12, T_12, 70)) (M' := m_Mo_next) (as := []) (D' := D - 1) (C1 := 0) (C2 := 0) (S1 := 0) (S2 := 0) d_Mo_takes_1 rfl w_1253 w_1255 w_21 hm_0 k_Mo_next (Nat.le_of_ble_eq_true rfl) rfl (Nat.le_of_ble_eq_true rfl) (by omega) rfl rfl ?_
  refine c_Mo_next (by omega) hx hp hp1 ?_
  refine wp_iload_n d_Mo_takes_4 rfl rfl ?_
  refine wp_icmp_eq (t := 10) d_Mo_takes_5 (by decide) (fun c_5 => ?_) (fun c_5 => ?_)
  · skip
    refine wp_aload_n d_Mo_takes_10 rfl rfl rfl ?_
    refine wp_dup d_Mo_takes_11 rfl ?_
    refine gM_14 rfl d_Mo_takes_12 ?_
    refine wp_iconst (v := 1) d_Mo_takes_15 rfl ?_
    refine wp_iadd d_Mo_takes_16 ?_
    refine pM_14 rfl d_Mo_takes_17 ?_
    refine wp_iconst (v := 1) d_Mo_takes_20 rfl ?_
    refine wp_ireturn d_Mo_takes_21 rfl rfl ?_
    rw [hp, nI_1]
    exact kt ((sp_nx_is hx hc).mp c_5)
  · skip
    refine wp_iconst (v := 0) d_Mo_takes_8 rfl ?_
    refine wp_ireturn d_Mo_takes_9 rfl rfl ?_
    exact kf (fun h => c_5 ((sp_nx_is hx hc).mpr h))
set_option maxRecDepth 4000 in
theorem c_Mo_isDigit {T : Nat → Nat} {n p : Nat} (hD : 1 ≤ D) (hx : mo_tx I A T n) (hp : I 14 = nI p) (hp1 : p ≤ 1000) (kt : sp_dg T n p → Q (some (.int 1)) (HM X I A L E)) (kf : ¬ sp_dg T n p → Q (some (.int 0)) (HM X I A L E)) : px_W G D 0 0 m_Mo_isDigit 0 (px_ent 1 [.ref X.length]) [] (HM X I A L E) Q := by
  show px_W _ _ _ _ _ _ [some (.ref X.length)] [] _ _
  refine wp_aload_n d_Mo_isDigit_0 rfl rfl rfl ?_
  refine wp_aload_n d_Mo_isDigit_1 rfl rfl rfl ?_
  refine wp_callV (r := (R_12, T_12, 70)) (M' := m_Mo_next) (as := []) (D' := D - 1) (C1 := 0) (C2 := 0) (S1 := 0) (S2 := 0) d_Mo_isDigit_2 rfl w_1253 w_1255 w_21 hm_0 k_Mo_next (Nat.le_of_ble_eq_true rfl) rfl (Nat.le_of_ble_eq_true rfl) (by omega) rfl rfl ?_
  refine c_Mo_next (by omega) hx hp hp1 ?_
  refine wp_bipush (v := 48) d_Mo_isDigit_5 (by decide) ?_
  refine wp_bipush (v := 57) d_Mo_isDigit_7 (by decide) ?_
  refine wp_callV (r := (R_12, T_12, 70)) (M' := m_Mo_in) (as := [_, _, _]) (D' := D - 1) (C1 := 0) (C2 := 0) (S1 := 0) (S2 := 0) d_Mo_isDigit_9 rfl w_1209 w_1211 w_15 hm_0 k_Mo_in (Nat.le_of_ble_eq_true rfl) rfl (Nat.le_of_ble_eq_true rfl) (by omega) rfl rfl ?_
  refine c_Mo_in (by omega)  (fun c_9 => ?_) (fun c_9 => ?_)
  · skip
    refine wp_ireturn d_Mo_isDigit_12 rfl rfl ?_
    exact kt ((sp_nx_dg (a := 48) (b := 57) hx (by decide) (by decide)).mp c_9)
  · skip
    refine wp_ireturn d_Mo_isDigit_12 rfl rfl ?_
    exact kf (fun h => c_9 ((sp_nx_dg (a := 48) (b := 57) hx (by decide) (by decide)).mpr h))
set_option maxRecDepth 4000 in
theorem c_Mo_emits {sg : Nat} {v : Int32} (hD : 0 ≤ D) (hs : I 24 = nI sg) (h6 : sg < 600) (k : Q none (HM X (upd I 24 (nI (sg + 1))) (va_up A 22 (upd (A 22) sg v)) L E)) : px_W G D 0 0 m_Mo_emits 0 (px_ent 2 [.ref X.length, .int v]) [] (HM X I A L E) Q := by
  show px_W _ _ _ _ _ _ [some (.ref X.length), some (.int v)] [] _ _
  refine wp_aload_n d_Mo_emits_0 rfl rfl rfl ?_
  refine gM_22 rfl d_Mo_emits_1 ?_
  refine wp_aload_n d_Mo_emits_4 rfl rfl rfl ?_
  refine gM_24 rfl d_Mo_emits_5 ?_
  refine wp_iload_n d_Mo_emits_8 rfl rfl ?_
  rw [hs]
  refine sM_22 d_Mo_emits_9 (vp_in_nI h6 (by decide)) ?_
  refine wp_aload_n d_Mo_emits_10 rfl rfl rfl ?_
  refine wp_dup d_Mo_emits_11 rfl ?_
  refine gM_24 rfl d_Mo_emits_12 ?_
  refine wp_iconst (v := 1) d_Mo_emits_15 rfl ?_
  refine wp_iadd d_Mo_emits_16 ?_
  refine pM_24 rfl d_Mo_emits_17 ?_
  refine wp_return d_Mo_emits_20 rfl ?_
  rw [nI_clamp (by omega)]
  refine (show Q none (HM X (upd I 24 (I 24 + 1)) (va_up A 22 (upd (A 22) sg v)) L E) from ?_)
  rw [hs, nI_1]
  exact k
set_option maxRecDepth 4000 in
theorem c_Mo_letterAt {v : Int32} (hD : 0 ≤ D) (k : Q (some (.int (sp_la v))) (HM X I A L E)) : px_W G D 0 0 m_Mo_letterAt 0 (px_ent 2 [.ref X.length, .int v]) [] (HM X I A L E) Q := by
  show px_W _ _ _ _ _ _ [some (.ref X.length), some (.int v)] [] _ _
  refine wp_iload_n d_Mo_letterAt_0 rfl rfl ?_
  refine wp_topi (fun y_1 e_1 => ?_)
  by_cases s_1_104 : y_1 = 104
  · rw [s_1_104]
    refine wp_tableIn (off := 81) (t := 82) d_Mo_letterAt_1 (by decide) (by decide) rfl (by decide) ?_
    refine wp_iconst (v := 3) d_Mo_letterAt_82 rfl ?_
    refine wp_ireturn d_Mo_letterAt_83 rfl rfl ?_
    first
      | (subst_vars; rw [sp_la, if_neg (by assumption), if_neg (by assumption), if_neg (by assumption), if_neg (by assumption), if_neg (by assumption), if_neg (by assumption)] at k; exact k)
      | (refine cast (congrArg (fun z => Q (some (.int z)) (HM X I A L E)) ?_) k; first | rfl | (unfold sp_la; simp only [*]; done) | (unfold sp_la; simp only [*]; rfl) | (subst_vars; decide))
  by_cases s_1_105 : y_1 = 105
  · rw [s_1_105]
    refine wp_tableIn (off := 87) (t := 88) d_Mo_letterAt_1 (by decide) (by decide) rfl (by decide) ?_
    refine wp_iconst (v := (-1)) d_Mo_letterAt_88 rfl ?_
    refine wp_ireturn d_Mo_letterAt_89 rfl rfl ?_
    first
      | (subst_vars; rw [sp_la, if_neg (by assumption), if_neg (by assumption), if_neg (by assumption), if_neg (by assumption), if_neg (by assumption), if_neg (by assumption)] at k; exact k)
      | (refine cast (congrArg (fun z => Q (some (.int z)) (HM X I A L E)) ?_) k; first | rfl | (unfold sp_la; simp only [*]; done) | (unfold sp_la; simp only [*]; rfl) | (subst_vars; decide))
  by_cases s_1_106 : y_1 = 106
  · rw [s_1_106]
    refine wp_tableIn (off := 87) (t := 88) d_Mo_letterAt_1 (by decide) (by decide) rfl (by decide) ?_
    refine wp_iconst (v := (-1)) d_Mo_letterAt_88 rfl ?_
    refine wp_ireturn d_Mo_letterAt_89 rfl rfl ?_
    first
      | (subst_vars; rw [sp_la, if_neg (by assumption), if_neg (by assumption), if_neg (by assumption), if_neg (by assumption), if_neg (by assumption), if_neg (by assumption)] at k; exact k)
      | (refine cast (congrArg (fun z => Q (some (.int z)) (HM X I A L E)) ?_) k; first | rfl | (unfold sp_la; simp only [*]; done) | (unfold sp_la; simp only [*]; rfl) | (subst_vars; decide))
  by_cases s_1_107 : y_1 = 107
  · rw [s_1_107]
    refine wp_tableIn (off := 77) (t := 78) d_Mo_letterAt_1 (by decide) (by decide) rfl (by decide) ?_
    refine wp_iconst (v := 1) d_Mo_letterAt_78 rfl ?_
    refine wp_ireturn d_Mo_letterAt_79 rfl rfl ?_
    first
      | (subst_vars; rw [sp_la, if_neg (by assumption), if_neg (by assumption), if_neg (by assumption), if_neg (by assumption), if_neg (by assumption), if_neg (by assumption)] at k; exact k)
      | (refine cast (congrArg (fun z => Q (some (.int z)) (HM X I A L E)) ?_) k; first | rfl | (unfold sp_la; simp only [*]; done) | (unfold sp_la; simp only [*]; rfl) | (subst_vars; decide))
  by_cases s_1_108 : y_1 = 108
  · rw [s_1_108]
    refine wp_tableIn (off := 79) (t := 80) d_Mo_letterAt_1 (by decide) (by decide) rfl (by decide) ?_
    refine wp_iconst (v := 2) d_Mo_letterAt_80 rfl ?_
    refine wp_ireturn d_Mo_letterAt_81 rfl rfl ?_
    first
      | (subst_vars; rw [sp_la, if_neg (by assumption), if_neg (by assumption), if_neg (by assumption), if_neg (by assumption), if_neg (by assumption), if_neg (by assumption)] at k; exact k)
      | (refine cast (congrArg (fun z => Q (some (.int z)) (HM X I A L E)) ?_) k; first | rfl | (unfold sp_la; simp only [*]; done) | (unfold sp_la; simp only [*]; rfl) | (subst_vars; decide))
  by_cases s_1_109 : y_1 = 109
  · rw [s_1_109]
    refine wp_tableIn (off := 75) (t := 76) d_Mo_letterAt_1 (by decide) (by decide) rfl (by decide) ?_
    refine wp_iconst (v := 0) d_Mo_letterAt_76 rfl ?_
    refine wp_ireturn d_Mo_letterAt_77 rfl rfl ?_
    first
      | (subst_vars; rw [sp_la, if_neg (by assumption), if_neg (by assumption), if_neg (by assumption), if_neg (by assumption), if_neg (by assumption), if_neg (by assumption)] at k; exact k)
      | (refine cast (congrArg (fun z => Q (some (.int z)) (HM X I A L E)) ?_) k; first | rfl | (unfold sp_la; simp only [*]; done) | (unfold sp_la; simp only [*]; rfl) | (subst_vars; decide))
  by_cases s_1_110 : y_1 = 110
  · rw [s_1_110]
    refine wp_tableIn (off := 87) (t := 88) d_Mo_letterAt_1 (by decide) (by decide) rfl (by decide) ?_
    refine wp_iconst (v := (-1)) d_Mo_letterAt_88 rfl ?_
    refine wp_ireturn d_Mo_letterAt_89 rfl rfl ?_
    first
      | (subst_vars; rw [sp_la, if_neg (by assumption), if_neg (by assumption), if_neg (by assumption), if_neg (by assumption), if_neg (by assumption), if_neg (by assumption)] at k; exact k)
      | (refine cast (congrArg (fun z => Q (some (.int z)) (HM X I A L E)) ?_) k; first | rfl | (unfold sp_la; simp only [*]; done) | (unfold sp_la; simp only [*]; rfl) | (subst_vars; decide))
  by_cases s_1_111 : y_1 = 111
  · rw [s_1_111]
    refine wp_tableIn (off := 87) (t := 88) d_Mo_letterAt_1 (by decide) (by decide) rfl (by decide) ?_
    refine wp_iconst (v := (-1)) d_Mo_letterAt_88 rfl ?_
    refine wp_ireturn d_Mo_letterAt_89 rfl rfl ?_
    first
      | (subst_vars; rw [sp_la, if_neg (by assumption), if_neg (by assumption), if_neg (by assumption), if_neg (by assumption), if_neg (by assumption), if_neg (by assumption)] at k; exact k)
      | (refine cast (congrArg (fun z => Q (some (.int z)) (HM X I A L E)) ?_) k; first | rfl | (unfold sp_la; simp only [*]; done) | (unfold sp_la; simp only [*]; rfl) | (subst_vars; decide))
  by_cases s_1_112 : y_1 = 112
  · rw [s_1_112]
    refine wp_tableIn (off := 87) (t := 88) d_Mo_letterAt_1 (by decide) (by decide) rfl (by decide) ?_
    refine wp_iconst (v := (-1)) d_Mo_letterAt_88 rfl ?_
    refine wp_ireturn d_Mo_letterAt_89 rfl rfl ?_
    first
      | (subst_vars; rw [sp_la, if_neg (by assumption), if_neg (by assumption), if_neg (by assumption), if_neg (by assumption), if_neg (by assumption), if_neg (by assumption)] at k; exact k)
      | (refine cast (congrArg (fun z => Q (some (.int z)) (HM X I A L E)) ?_) k; first | rfl | (unfold sp_la; simp only [*]; done) | (unfold sp_la; simp only [*]; rfl) | (subst_vars; decide))
  by_cases s_1_113 : y_1 = 113
  · rw [s_1_113]
    refine wp_tableIn (off := 87) (t := 88) d_Mo_letterAt_1 (by decide) (by decide) rfl (by decide) ?_
    refine wp_iconst (v := (-1)) d_Mo_letterAt_88 rfl ?_
    refine wp_ireturn d_Mo_letterAt_89 rfl rfl ?_
    first
      | (subst_vars; rw [sp_la, if_neg (by assumption), if_neg (by assumption), if_neg (by assumption), if_neg (by assumption), if_neg (by assumption), if_neg (by assumption)] at k; exact k)
      | (refine cast (congrArg (fun z => Q (some (.int z)) (HM X I A L E)) ?_) k; first | rfl | (unfold sp_la; simp only [*]; done) | (unfold sp_la; simp only [*]; rfl) | (subst_vars; decide))
  by_cases s_1_114 : y_1 = 114
  · rw [s_1_114]
    refine wp_tableIn (off := 87) (t := 88) d_Mo_letterAt_1 (by decide) (by decide) rfl (by decide) ?_
    refine wp_iconst (v := (-1)) d_Mo_letterAt_88 rfl ?_
    refine wp_ireturn d_Mo_letterAt_89 rfl rfl ?_
    first
      | (subst_vars; rw [sp_la, if_neg (by assumption), if_neg (by assumption), if_neg (by assumption), if_neg (by assumption), if_neg (by assumption), if_neg (by assumption)] at k; exact k)
      | (refine cast (congrArg (fun z => Q (some (.int z)) (HM X I A L E)) ?_) k; first | rfl | (unfold sp_la; simp only [*]; done) | (unfold sp_la; simp only [*]; rfl) | (subst_vars; decide))
  by_cases s_1_115 : y_1 = 115
  · rw [s_1_115]
    refine wp_tableIn (off := 87) (t := 88) d_Mo_letterAt_1 (by decide) (by decide) rfl (by decide) ?_
    refine wp_iconst (v := (-1)) d_Mo_letterAt_88 rfl ?_
    refine wp_ireturn d_Mo_letterAt_89 rfl rfl ?_
    first
      | (subst_vars; rw [sp_la, if_neg (by assumption), if_neg (by assumption), if_neg (by assumption), if_neg (by assumption), if_neg (by assumption), if_neg (by assumption)] at k; exact k)
      | (refine cast (congrArg (fun z => Q (some (.int z)) (HM X I A L E)) ?_) k; first | rfl | (unfold sp_la; simp only [*]; done) | (unfold sp_la; simp only [*]; rfl) | (subst_vars; decide))
  by_cases s_1_116 : y_1 = 116
  · rw [s_1_116]
    refine wp_tableIn (off := 83) (t := 84) d_Mo_letterAt_1 (by decide) (by decide) rfl (by decide) ?_
    refine wp_iconst (v := 4) d_Mo_letterAt_84 rfl ?_
    refine wp_ireturn d_Mo_letterAt_85 rfl rfl ?_
    first
      | (subst_vars; rw [sp_la, if_neg (by assumption), if_neg (by assumption), if_neg (by assumption), if_neg (by assumption), if_neg (by assumption), if_neg (by assumption)] at k; exact k)
      | (refine cast (congrArg (fun z => Q (some (.int z)) (HM X I A L E)) ?_) k; first | rfl | (unfold sp_la; simp only [*]; done) | (unfold sp_la; simp only [*]; rfl) | (subst_vars; decide))
  by_cases s_1_117 : y_1 = 117
  · rw [s_1_117]
    refine wp_tableIn (off := 87) (t := 88) d_Mo_letterAt_1 (by decide) (by decide) rfl (by decide) ?_
    refine wp_iconst (v := (-1)) d_Mo_letterAt_88 rfl ?_
    refine wp_ireturn d_Mo_letterAt_89 rfl rfl ?_
    first
      | (subst_vars; rw [sp_la, if_neg (by assumption), if_neg (by assumption), if_neg (by assumption), if_neg (by assumption), if_neg (by assumption), if_neg (by assumption)] at k; exact k)
      | (refine cast (congrArg (fun z => Q (some (.int z)) (HM X I A L E)) ?_) k; first | rfl | (unfold sp_la; simp only [*]; done) | (unfold sp_la; simp only [*]; rfl) | (subst_vars; decide))
  by_cases s_1_118 : y_1 = 118
  · rw [s_1_118]
    refine wp_tableIn (off := 85) (t := 86) d_Mo_letterAt_1 (by decide) (by decide) rfl (by decide) ?_
    refine wp_iconst (v := 5) d_Mo_letterAt_86 rfl ?_
    refine wp_ireturn d_Mo_letterAt_87 rfl rfl ?_
    first
      | (subst_vars; rw [sp_la, if_neg (by assumption), if_neg (by assumption), if_neg (by assumption), if_neg (by assumption), if_neg (by assumption), if_neg (by assumption)] at k; exact k)
      | (refine cast (congrArg (fun z => Q (some (.int z)) (HM X I A L E)) ?_) k; first | rfl | (unfold sp_la; simp only [*]; done) | (unfold sp_la; simp only [*]; rfl) | (subst_vars; decide))
  have n_1_104 : y_1.toInt ≠ 104 := lv_neT s_1_104 rfl
  have n_1_105 : y_1.toInt ≠ 105 := lv_neT s_1_105 rfl
  have n_1_106 : y_1.toInt ≠ 106 := lv_neT s_1_106 rfl
  have n_1_107 : y_1.toInt ≠ 107 := lv_neT s_1_107 rfl
  have n_1_108 : y_1.toInt ≠ 108 := lv_neT s_1_108 rfl
  have n_1_109 : y_1.toInt ≠ 109 := lv_neT s_1_109 rfl
  have n_1_110 : y_1.toInt ≠ 110 := lv_neT s_1_110 rfl
  have n_1_111 : y_1.toInt ≠ 111 := lv_neT s_1_111 rfl
  have n_1_112 : y_1.toInt ≠ 112 := lv_neT s_1_112 rfl
  have n_1_113 : y_1.toInt ≠ 113 := lv_neT s_1_113 rfl
  have n_1_114 : y_1.toInt ≠ 114 := lv_neT s_1_114 rfl
  have n_1_115 : y_1.toInt ≠ 115 := lv_neT s_1_115 rfl
  have n_1_116 : y_1.toInt ≠ 116 := lv_neT s_1_116 rfl
  have n_1_117 : y_1.toInt ≠ 117 := lv_neT s_1_117 rfl
  have n_1_118 : y_1.toInt ≠ 118 := lv_neT s_1_118 rfl
  refine wp_tableOut (t := 88) d_Mo_letterAt_1 (by omega) (by decide) ?_
  refine wp_iconst (v := (-1)) d_Mo_letterAt_88 rfl ?_
  refine wp_ireturn d_Mo_letterAt_89 rfl rfl ?_
  first
    | (subst_vars; rw [sp_la, if_neg (by assumption), if_neg (by assumption), if_neg (by assumption), if_neg (by assumption), if_neg (by assumption), if_neg (by assumption)] at k; exact k)
    | (refine cast (congrArg (fun z => Q (some (.int z)) (HM X I A L E)) ?_) k; first | rfl | (unfold sp_la; simp only [*]; done) | (unfold sp_la; simp only [*]; rfl) | (subst_vars; decide))
end MOI
