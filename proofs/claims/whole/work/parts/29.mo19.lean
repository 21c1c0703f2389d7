def sp_test (T : Nat → Nat) (n p : Nat) : Option Nat × Nat :=
  match (if p < n then sp_let (T p) else none) with
  | none => (none, p)
  | some f =>
    if p + 1 < n ∧ 60 ≤ T (p + 1) ∧ T (p + 1) ≤ 62 then
      (match sp_num T n (p + 2) with
      | (some d, p') => (some (1000 * f + 100 * (T (p + 1) - 60) + d), p')
      | (none, p') => (none, p'))
    else (none, p + 1)
theorem sp_num_b {T : Nat → Nat} {n p d p' : Nat} (h : sp_num T n p = (some d, p')) : d < 100 ∧ p < p' ∧ p' ≤ n := by
  unfold sp_num at h
  by_cases h1 : sp_dg T n p
  · rw [if_pos h1] at h
    by_cases h2 : sp_dg T n (p + 1)
    · rw [if_pos h2] at h
      cases h
      exact ⟨by have := h1.2; have := h2.2; omega, by omega, by have := h2.1; omega⟩
    · rw [if_neg h2] at h
      cases h
      exact ⟨by have := h1.2; omega, by omega, by have := h1.1; omega⟩
  · rw [if_neg h1] at h
    cases h
theorem sp_let_b {c f : Nat} (h : sp_let c = some f) : f < 6 := by
  unfold sp_let at h
  split at h
  · cases h; decide
  · split at h
    · cases h; decide
    · split at h
      · cases h; decide
      · split at h
        · cases h; decide
        · split at h
          · cases h; decide
          · split at h
            · cases h; decide
            · cases h
theorem sp_test_b {T : Nat → Nat} {n p d p' : Nat} (h : sp_test T n p = (some d, p')) : d < 6000 ∧ p + 3 ≤ p' ∧ p' ≤ n := by
  unfold sp_test at h
  cases hl : (if p < n then sp_let (T p) else none) with
  | none => rw [hl] at h; cases h
  | some f =>
    have hf : f < 6 := by
      by_cases hp : p < n
      · rw [if_pos hp] at hl; exact sp_let_b hl
      · rw [if_neg hp] at hl; cases hl
    simp only [hl] at h
    by_cases h1 : p + 1 < n ∧ 60 ≤ T (p + 1) ∧ T (p + 1) ≤ 62
    · rw [if_pos h1] at h
      cases hn : sp_num T n (p + 2) with
      | mk a b =>
        cases a with
        | none => simp only [hn] at h; cases h
        | some e =>
          simp only [hn] at h
          have hb := sp_num_b hn
          cases h
          exact ⟨by omega, by omega, hb.2.2⟩
    · rw [if_neg h1] at h; cases h
/-- modes: 0 an F, 1 a T, 2 an E, 3 behind an F of a T, 4 behind a T of an E -/
def sp_P (T : Nat → Nat) (n : Nat) : Nat → Nat → Nat → Nat → Option (List Nat) × Nat
  | 0, _, _, p => (none, p)
  | q + 1, m, d, p =>
    if m = 0 then
      (if sp_is T n p 33 then (if 4 ≤ d then (none, p) else match sp_P T n q 0 (d + 1) (p + 1) with
        | (some l, p') => (some (l ++ [6000]), p')
        | (none, p') => (none, p'))
      else if sp_is T n p 40 then (if 4 ≤ d then (none, p) else match sp_P T n q 2 (d + 1) (p + 1) with
        | (some l, p') => if sp_is T n p' 41 then (some l, p' + 1) else (none, p')
        | (none, p') => (none, p'))
      else match sp_test T n p with
        | (some t, p') => (some [t], p')
        | (none, p') => (none, p'))
    else if m = 1 then (match sp_P T n q 0 d p with
      | (some l, p') => (match sp_P T n q 3 d p' with
        | (some l2, p'') => (some (l ++ l2), p'')
        | (none, p'') => (none, p''))
      | (none, p') => (none, p'))
    else if m = 2 then (match sp_P T n q 1 d p with
      | (some l, p') => (match sp_P T n q 4 d p' with
        | (some l2, p'') => (some (l ++ l2), p'')
        | (none, p'') => (none, p''))
      | (none, p') => (none, p'))
    else if m = 3 then (if sp_is T n p 38 then (match sp_P T n q 0 d (p + 1) with
      | (some l, p') => (match sp_P T n q 3 d p' with
        | (some l2, p'') => (some (l ++ [6001] ++ l2), p'')
        | (none, p'') => (none, p''))
      | (none, p') => (none, p')) else (some [], p))
    else (if sp_is T n p 124 then (match sp_P T n q 1 d (p + 1) with
      | (some l, p') => (match sp_P T n q 4 d p' with
        | (some l2, p'') => (some (l ++ [6002] ++ l2), p'')
        | (none, p'') => (none, p''))
      | (none, p') => (none, p')) else (some [], p))
/-- what a good one leaves: it goes on, no further than the end, and is no longer than its signs -/
theorem sp_P_b {T : Nat → Nat} {n : Nat} : ∀ (q m d p : Nat) (l : List Nat) (p' : Nat), p ≤ n → sp_P T n q m d p = (some l, p') → p ≤ p' ∧ p' ≤ n ∧ l.length + p ≤ p' ∧ ∀ t, t ∈ l → t ≤ 6002 := by
  intro q
  induction q with
  | zero => intro m d p l p' hp h; cases h
  | succ q ih =>
    intro m d p l p' hp h
    rw [sp_P] at h
    by_cases m0 : m = 0
    · rw [if_pos m0] at h
      by_cases h33 : sp_is T n p 33
      · rw [if_pos h33] at h
        by_cases hd : 4 ≤ d
        · rw [if_pos hd] at h; cases h
        · rw [if_neg hd] at h
          cases hr : sp_P T n q 0 (d + 1) (p + 1) with
          | mk a b =>
            cases a with
            | none => simp only [hr] at h; cases h
            | some e =>
              simp only [hr] at h
              cases h
              have hb := ih 0 (d + 1) (p + 1) e p' (by have := h33.1; omega) hr
              refine ⟨by omega, hb.2.1, by simp only [List.length_append, List.length_cons, List.length_nil]; omega, fun t ht => ?_⟩
              rcases List.mem_append.mp ht with ht | ht
              · exact hb.2.2.2 t ht
              · rw [List.mem_singleton.mp ht]; decide
      · rw [if_neg h33] at h
        by_cases h40 : sp_is T n p 40
        · rw [if_pos h40] at h
          by_cases hd : 4 ≤ d
          · rw [if_pos hd] at h; cases h
          · rw [if_neg hd] at h
            cases hr : sp_P T n q 2 (d + 1) (p + 1) with
            | mk a b =>
              cases a with
              | none => simp only [hr] at h; cases h
              | some e =>
                simp only [hr] at h
                by_cases h41 : sp_is T n b 41
                · rw [if_pos h41] at h
                  cases h
                  have hb := ih 2 (d + 1) (p + 1) l b (by have := h40.1; omega) hr
                  exact ⟨by omega, by have := h41.1; omega, by omega, hb.2.2.2⟩
                · rw [if_neg h41] at h; cases h
        · rw [if_neg h40] at h
          cases hr : sp_test T n p with
          | mk a b =>
            cases a with
            | none => simp only [hr] at h; cases h
            | some e =>
              simp only [hr] at h
              cases h
              have hb := sp_test_b hr
              exact ⟨by omega, hb.2.2, by show 1 + p ≤ p'; omega, fun t ht => by rw [List.mem_singleton.mp ht]; omega⟩
    · rw [if_neg m0] at h
      by_cases m1 : m = 1
      · rw [if_pos m1] at h
        cases hr : sp_P T n q 0 d p with
        | mk a b =>
          cases a with
          | none => simp only [hr] at h; cases h
          | some e =>
            simp only [hr] at h
            have hb := ih 0 d p e b hp hr
            cases hr2 : sp_P T n q 3 d b with
            | mk a2 b2 =>
              cases a2 with
              | none => simp only [hr2] at h; cases h
              | some e2 =>
                simp only [hr2] at h
                cases h
                have hb2 := ih 3 d b e2 p' hb.2.1 hr2
                refine ⟨by omega, hb2.2.1, by rw [List.length_append]; omega, fun t ht => ?_⟩
                rcases List.mem_append.mp ht with ht | ht
                · exact hb.2.2.2 t ht
                · exact hb2.2.2.2 t ht
      · rw [if_neg m1] at h
        by_cases m2 : m = 2
        · rw [if_pos m2] at h
          cases hr : sp_P T n q 1 d p with
          | mk a b =>
            cases a with
            | none => simp only [hr] at h; cases h
            | some e =>
              simp only [hr] at h
              have hb := ih 1 d p e b hp hr
              cases hr2 : sp_P T n q 4 d b with
              | mk a2 b2 =>
                cases a2 with
                | none => simp only [hr2] at h; cases h
                | some e2 =>
                  simp only [hr2] at h
                  cases h
                  have hb2 := ih 4 d b e2 p' hb.2.1 hr2
                  refine ⟨by omega, hb2.2.1, by rw [List.length_append]; omega, fun t ht => ?_⟩
                  rcases List.mem_append.mp ht with ht | ht
                  · exact hb.2.2.2 t ht
                  · exact hb2.2.2.2 t ht
        · rw [if_neg m2] at h
          by_cases m3 : m = 3
          · rw [if_pos m3] at h
            by_cases h38 : sp_is T n p 38
            · rw [if_pos h38] at h
              cases hr : sp_P T n q 0 d (p + 1) with
              | mk a b =>
                cases a with
                | none => simp only [hr] at h; cases h
                | some e =>
                  simp only [hr] at h
                  have hb := ih 0 d (p + 1) e b (by have := h38.1; omega) hr
                  cases hr2 : sp_P T n q 3 d b with
                  | mk a2 b2 =>
                    cases a2 with
                    | none => simp only [hr2] at h; cases h
                    | some e2 =>
                      simp only [hr2] at h
                      cases h
                      have hb2 := ih 3 d b e2 p' hb.2.1 hr2
                      refine ⟨by omega, hb2.2.1, by simp only [List.length_append, List.length_cons, List.length_nil]; omega, fun t ht => ?_⟩
                      rcases List.mem_append.mp ht with ht | ht
                      · rcases List.mem_append.mp ht with ht | ht
                        · exact hb.2.2.2 t ht
                        · rw [List.mem_singleton.mp ht]; decide
                      · exact hb2.2.2.2 t ht
            · rw [if_neg h38] at h
              cases h
              exact ⟨Nat.le_refl _, hp, by show 0 + p ≤ p; omega, fun t ht => by cases ht⟩
          · rw [if_neg m3] at h
            by_cases h124 : sp_is T n p 124
            · rw [if_pos h124] at h
              cases hr : sp_P T n q 1 d (p + 1) with
              | mk a b =>
                cases a with
                | none => simp only [hr] at h; cases h
                | some e =>
                  simp only [hr] at h
                  have hb := ih 1 d (p + 1) e b (by have := h124.1; omega) hr
                  cases hr2 : sp_P T n q 4 d b with
                  | mk a2 b2 =>
                    cases a2 with
                    | none => simp only [hr2] at h; cases h
                    | some e2 =>
                      simp only [hr2] at h
                      cases h
                      have hb2 := ih 4 d b e2 p' hb.2.1 hr2
                      refine ⟨by omega, hb2.2.1, by simp only [List.length_append, List.length_cons, List.length_nil]; omega, fun t ht => ?_⟩
                      rcases List.mem_append.mp ht with ht | ht
                      · rcases List.mem_append.mp ht with ht | ht
                        · exact hb.2.2.2 t ht
                        · rw [List.mem_singleton.mp ht]; decide
                      · exact hb2.2.2.2 t ht
            · rw [if_neg h124] at h
              cases h
              exact ⟨Nat.le_refl _, hp, by show 0 + p ≤ p; omega, fun t ht => by cases ht⟩
/-! the machine's stack of signs that wait -/
def sp_wW : List Nat → List Nat
  | [] => []
  | x :: W => if x = 33 then sp_wW W else x :: W
def sp_wE : List Nat → List Nat
  | [] => []
  | x :: W => if x = 33 then 6000 :: sp_wE W else []
def sp_op : List Nat → Nat
  | [] => 0
  | x :: W => (if x = 33 ∨ x = 40 then 1 else 0) + sp_op W
def sp_sW (s : Nat) : List Nat → List Nat
  | [] => []
  | x :: W => if x = 38 ∨ (x = 124 ∧ s ≠ 38) then sp_sW s W else x :: W
def sp_sE (s : Nat) : List Nat → List Nat
  | [] => []
  | x :: W => if x = 38 ∨ (x = 124 ∧ s ≠ 38) then (if x = 38 then 6001 else 6002) :: sp_sE s W else []
def mo_stk (g : Nat → Int32) : List Nat → Prop
  | [] => True
  | x :: W => g W.length = nI x ∧ x < 128 ∧ mo_stk g W
theorem mo_stk.up {g : Nat → Int32} {k : Nat} {x : Int32} : ∀ {W : List Nat}, mo_stk g W → W.length ≤ k → mo_stk (upd g k x) W
  | [], _, _ => trivial
  | y :: W, h, hk => by
    have hl : (y :: W).length = W.length + 1 := rfl
    exact ⟨by show (if W.length = k then x else g W.length) = nI y; rw [if_neg (by omega)]; exact h.1, h.2.1, h.2.2.up (by omega)⟩
theorem mo_stk.push {g : Nat → Int32} {W : List Nat} {y : Nat} {x : Int32} (h : mo_stk g W) (hx : x = nI y) (hy : y < 128) : mo_stk (upd g W.length x) (y :: W) := ⟨by show (if W.length = W.length then x else g W.length) = nI y; rw [if_pos rfl]; exact hx, hy, h.up (Nat.le_refl _)⟩
/-- p, the stack W, the codes o that are out since s0; only c's bounds change -/
def mo_R (I : Nat → Int32) (A : Nat → Nat → Int32) (I1 : Nat → Int32) (A1 : Nat → Nat → Int32) (n s0 c f p : Nat) (W o : List Nat) : Prop := ms [14, 15, 24, 25, 26] [21, 22, 23] I I1 A A1 ∧ (∀ j, j ≠ c → A1 21 j = A 21 j) ∧ I1 14 = nI p ∧ p ≤ n ∧ I1 24 = nI (s0 + o.length) ∧ I1 25 = nI W.length ∧ I1 26 = nI (sp_op W) ∧ mo_stk (A1 23) W ∧ (∀ j, j < s0 → A1 22 j = A 22 j) ∧ (∀ i t, o[i]? = some t → A1 22 (s0 + i) = mo_enc t) ∧ s0 + o.length + W.length ≤ 100 * f + p
def mo_F (I : Nat → Int32) (A : Nat → Nat → Int32) (I1 : Nat → Int32) (A1 : Nat → Nat → Int32) (s0 c p : Nat) : Prop := ms [14, 15, 24, 25, 26] [21, 22, 23] I I1 A A1 ∧ (∀ j, j ≠ c → A1 21 j = A 21 j) ∧ I1 14 = nI p ∧ (∀ j, j < s0 → A1 22 j = A 22 j)
/-- one more code -/
theorem mo_out {g g0 : Nat → Int32} {s0 : Nat} {o : List Nat} {t : Nat} {x : Int32} (h1 : ∀ j, j < s0 → g j = g0 j) (h : ∀ i t, o[i]? = some t → g (s0 + i) = mo_enc t) (hx : x = mo_enc t) : (∀ j, j < s0 → upd g (s0 + o.length) x j = g0 j) ∧ ∀ i t', (o ++ [t])[i]? = some t' → upd g (s0 + o.length) x (s0 + i) = mo_enc t' := by
  refine ⟨fun j hj => ?_, fun i t' hi => ?_⟩
  · show (if j = s0 + o.length then x else g j) = g0 j
    rw [if_neg (by omega)]; exact h1 j hj
  · show (if s0 + i = s0 + o.length then x else g (s0 + i)) = mo_enc t'
    by_cases e : i = o.length
    · rw [if_pos (by omega), hx]
      rw [e, List.getElem?_append_right (Nat.le_refl _), Nat.sub_self] at hi
      exact congrArg mo_enc (Option.some.inj hi)
    · rw [if_neg (by omega)]
      have hlt : i < o.length := by
        have := (List.getElem?_eq_some_iff.mp hi).1
        rw [List.length_append] at this
        have h3 : [t].length = 1 := rfl
        omega
      rw [List.getElem?_append_left hlt] at hi
      exact h i t' hi
section MOJ
variable {G : px_G} {D : Nat} {X E : px_H} {I : Nat → Int32} {A : Nat → Nat → Int32} {L : Nat → Nat → Int64} {Q : Option Value → px_H → Prop}
set_option maxRecDepth 4000 in
theorem l_Mo_takesNumber_16 {T : Nat → Nat} {n p d0 : Nat} (hD : 2 ≤ D) (hx : mo_tx I A T n) (hp : I 14 = nI p) (hd0 : I 15 = nI d0) (hp1 : p ≤ 900) (kt : sp_dg T n p → Q (some (.int 1)) (HM X (upd (upd I 15 (nI (10 * d0 + (T p - 48)))) 14 (nI (p + 1))) A L E)) (kf : ¬ sp_dg T n p → Q (some (.int 1)) (HM X I A L E)) : px_W G D 0 0 m_Mo_takesNumber 16 [some (.ref X.length), some (.int (nI 1))] [] (HM X I A L E) Q := by
  refine wp_iload_n d_Mo_takesNumber_16 rfl rfl ?_
  refine wp_iconst (v := 2) d_Mo_takesNumber_17 rfl ?_
  refine wp_icmp_ge (t := 63) d_Mo_takesNumber_18 (by decide) (fun c_18 => absurd c_18 (by decide)) (fun c_18 => ?_)
  refine wp_aload_n d_Mo_takesNumber_21 rfl rfl rfl ?_
  refine wp_callV (r := (R_12, T_12, 70)) (M' := m_Mo_isDigit) (as := []) (D' := D - 1) (C1 := 0) (C2 := 0) (S1 := 0) (S2 := 0) d_Mo_takesNumber_22 rfl w_1273 w_1275 w_26 hm_0 k_Mo_isDigit (Nat.le_of_ble_eq_true rfl) rfl (Nat.le_of_ble_eq_true rfl) (by omega) rfl rfl ?_
  refine c_Mo_isDigit (by omega) hx hp (by omega) (fun c_22 => ?_) (fun c_22 => ?_)
  · skip
    refine wp_if_eq (t := 63) d_Mo_takesNumber_25 (by decide) (fun c_25 => (absurd c_25 (by decide))) (fun c_25 => ?_)
    refine wp_aload_n d_Mo_takesNumber_28 rfl rfl rfl ?_
    refine wp_bipush (v := 10) d_Mo_takesNumber_29 (by decide) ?_
    refine wp_aload_n d_Mo_takesNumber_31 rfl rfl rfl ?_
    refine gM_15 rfl d_Mo_takesNumber_32 ?_
    refine wp_imul d_Mo_takesNumber_35 ?_
    refine wp_aload_n d_Mo_takesNumber_36 rfl rfl rfl ?_
    refine wp_callV (r := (R_12, T_12, 70)) (M' := m_Mo_next) (as := []) (D' := D - 1) (C1 := 0) (C2 := 0) (S1 := 0) (S2 := 0) d_Mo_takesNumber_37 rfl w_1253 w_1255 w_21 hm_0 k_Mo_next (Nat.le_of_ble_eq_true rfl) rfl (Nat.le_of_ble_eq_true rfl) (by omega) rfl rfl ?_
    refine c_Mo_next (by omega) hx hp (by omega) ?_
    refine wp_iadd d_Mo_takesNumber_40 ?_
    refine wp_bipush (v := 48) d_Mo_takesNumber_41 (by decide) ?_
    refine wp_isub d_Mo_takesNumber_43 ?_
    rw [hd0]
    have hd := c_22
    have e48 : (10 : Int32) * nI d0 + sp_nx T n p - 48 = nI (10 * d0 + (T p - 48)) := by
      rw [sp_nx_v hd.1, show (10 : Int32) * nI d0 = nI (10 * d0) from pk_mul 10 d0, nI_add]
      refine (pk_sub (b := 48) (by omega)).trans ?_
      exact congrArg nI (by omega)
    rw [e48]
    refine pM_15 rfl d_Mo_takesNumber_44 ?_
    refine wp_aload_n d_Mo_takesNumber_47 rfl rfl rfl ?_
    refine wp_dup d_Mo_takesNumber_48 rfl ?_
    refine gM_14 rfl d_Mo_takesNumber_49 ?_
    refine wp_iconst (v := 1) d_Mo_takesNumber_52 rfl ?_
    refine wp_iadd d_Mo_takesNumber_53 ?_
    refine pM_14 rfl d_Mo_takesNumber_54 ?_
    refine wp_iinc (v := _ + 1) (ls' := [_, _]) d_Mo_takesNumber_57 (by decide) rfl rfl rfl ?_
    refine wp_goto (t := 16) d_Mo_takesNumber_60 (by decide) ?_
    refine wp_iload_n d_Mo_takesNumber_16 rfl rfl ?_
    refine wp_iconst (v := 2) d_Mo_takesNumber_17 rfl ?_
    refine wp_icmp_ge (t := 63) d_Mo_takesNumber_18 (by decide) (fun _ => ?_) (fun c => absurd (by decide) c)
    refine wp_iconst (v := 1) d_Mo_takesNumber_63 rfl ?_
    refine wp_ireturn d_Mo_takesNumber_64 rfl rfl ?_
    have k1 := kt hd
    rw [show upd I 15 (nI (10 * d0 + (T p - 48))) 14 = nI p from hp, nI_1]
    exact k1
  · skip
    refine wp_if_eq (t := 63) d_Mo_takesNumber_25 (by decide) (fun c_25 => ?_) (fun c_25 => (absurd c_25 (by decide)))
    refine wp_iconst (v := 1) d_Mo_takesNumber_63 rfl ?_
    refine wp_ireturn d_Mo_takesNumber_64 rfl rfl ?_
    exact kf c_22
set_option maxRecDepth 4000 in
theorem c_Mo_takesNumber {T : Nat → Nat} {n p : Nat} (hD : 2 ≤ D) (hx : mo_tx I A T n) (hp : I 14 = nI p) (hp1 : p ≤ 800) (kt : ∀ d p', sp_num T n p = (some d, p') → ∀ I' : Nat → Int32, ms [14, 15] [] I I' A A → I' 14 = nI p' → I' 15 = nI d → Q (some (.int 1)) (HM X I' A L E)) (kf : ¬ sp_dg T n p → Q (some (.int 0)) (HM X I A L E)) : px_W G D 0 0 m_Mo_takesNumber 0 (px_ent 2 [.ref X.length]) [] (HM X I A L E) Q := by
  show px_W _ _ _ _ _ _ [some (.ref X.length), none] [] _ _
  refine wp_aload_n d_Mo_takesNumber_0 rfl rfl rfl ?_
  refine wp_callV (r := (R_12, T_12, 70)) (M' := m_Mo_isDigit) (as := []) (D' := D - 1) (C1 := 0) (C2 := 0) (S1 := 0) (S2 := 0) d_Mo_takesNumber_1 rfl w_1273 w_1275 w_26 hm_0 k_Mo_isDigit (Nat.le_of_ble_eq_true rfl) rfl (Nat.le_of_ble_eq_true rfl) (by omega) rfl rfl ?_
  refine c_Mo_isDigit (by omega) hx hp (by omega) (fun c_1 => ?_) (fun c_1 => ?_)
  · skip
    refine wp_if_ne (t := 9) d_Mo_takesNumber_4 (by decide) (fun c_4 => ?_) (fun c_4 => (absurd c_4 (by decide)))
    refine wp_aload_n d_Mo_takesNumber_9 rfl rfl rfl ?_
    refine wp_iconst (v := 0) d_Mo_takesNumber_10 rfl ?_
    refine pM_15 rfl d_Mo_takesNumber_11 ?_
    refine wp_iconst (v := 0) d_Mo_takesNumber_14 rfl ?_
    refine wp_istore_n (ls' := [_, _]) d_Mo_takesNumber_15 rfl (by decide) rfl ?_
    have hx0 : mo_tx (upd I 15 0) A T n := hx.ms ((ms.rf (SI := [15]) (SA := [])).i 15 (by decide) _) (by decide) (by decide)
    have hp0 : upd I 15 0 14 = nI p := hp
    refine wp_iload_n d_Mo_takesNumber_16 rfl rfl ?_
    refine wp_iconst (v := 2) d_Mo_takesNumber_17 rfl ?_
    refine wp_icmp_ge (t := 63) d_Mo_takesNumber_18 (by decide) (fun c_18 => absurd c_18 (by decide)) (fun c_18 => ?_)
    refine wp_aload_n d_Mo_takesNumber_21 rfl rfl rfl ?_
    refine wp_callV (r := (R_12, T_12, 70)) (M' := m_Mo_isDigit) (as := []) (D' := D - 1) (C1 := 0) (C2 := 0) (S1 := 0) (S2 := 0) d_Mo_takesNumber_22 rfl w_1273 w_1275 w_26 hm_0 k_Mo_isDigit (Nat.le_of_ble_eq_true rfl) rfl (Nat.le_of_ble_eq_true rfl) (by omega) rfl rfl ?_
    refine c_Mo_isDigit (by omega) hx0 hp0 (by omega) (fun c_22 => ?_) (fun c_22 => absurd c_1 c_22)
    refine wp_if_eq (t := 63) d_Mo_takesNumber_25 (by decide) (fun c_25 => (absurd c_25 (by decide))) (fun c_25 => ?_)
    refine wp_aload_n d_Mo_takesNumber_28 rfl rfl rfl ?_
    refine wp_bipush (v := 10) d_Mo_takesNumber_29 (by decide) ?_
    refine wp_aload_n d_Mo_takesNumber_31 rfl rfl rfl ?_
    refine gM_15 rfl d_Mo_takesNumber_32 ?_
    refine wp_imul d_Mo_takesNumber_35 ?_
    refine wp_aload_n d_Mo_takesNumber_36 rfl rfl rfl ?_
    refine wp_callV (r := (R_12, T_12, 70)) (M' := m_Mo_next) (as := []) (D' := D - 1) (C1 := 0) (C2 := 0) (S1 := 0) (S2 := 0) d_Mo_takesNumber_37 rfl w_1253 w_1255 w_21 hm_0 k_Mo_next (Nat.le_of_ble_eq_true rfl) rfl (Nat.le_of_ble_eq_true rfl) (by omega) rfl rfl ?_
    refine c_Mo_next (by omega) hx0 hp0 (by omega) ?_
    refine wp_iadd d_Mo_takesNumber_40 ?_
    refine wp_bipush (v := 48) d_Mo_takesNumber_41 (by decide) ?_
    refine wp_isub d_Mo_takesNumber_43 ?_
    rw [show upd I 15 0 15 = nI 0 from rfl]
    have hd := c_1
    have e48 : (10 : Int32) * nI 0 + sp_nx T n p - 48 = nI (10 * 0 + (T p - 48)) := by
      rw [sp_nx_v hd.1, show (10 : Int32) * nI 0 = nI (10 * 0) from pk_mul 10 0, nI_add]
      refine (pk_sub (b := 48) (by omega)).trans ?_
      exact congrArg nI (by omega)
    rw [e48]
    refine pM_15 rfl d_Mo_takesNumber_44 ?_
    refine wp_aload_n d_Mo_takesNumber_47 rfl rfl rfl ?_
    refine wp_dup d_Mo_takesNumber_48 rfl ?_
    refine gM_14 rfl d_Mo_takesNumber_49 ?_
    refine wp_iconst (v := 1) d_Mo_takesNumber_52 rfl ?_
    refine wp_iadd d_Mo_takesNumber_53 ?_
    refine pM_14 rfl d_Mo_takesNumber_54 ?_
    refine wp_iinc (v := _ + 1) (ls' := [_, _]) d_Mo_takesNumber_57 (by decide) rfl rfl rfl ?_
    refine wp_goto (t := 16) d_Mo_takesNumber_60 (by decide) ?_
    rw [show upd (upd I 15 0) 15 (nI (10 * 0 + (T p - 48))) 14 = nI p from hp, nI_1]
    refine l_Mo_takesNumber_16 hD (d0 := 10 * 0 + (T p - 48)) (p := p + 1) (hx.ms (((ms.rf (SI := [14, 15]) (SA := [])).i 15 (by decide) _ |>.i 15 (by decide) _).i 14 (by decide) _) (by decide) (by decide)) rfl rfl (by omega) (fun h2 => ?_) (fun h2 => ?_)
    · refine kt _ (p + 2) ?_ _ ((((((ms.rf (SI := [14, 15]) (SA := [])).i 15 (by decide) _).i 15 (by decide) _).i 14 (by decide) _).i 15 (by decide) _).i 14 (by decide) _) rfl rfl
      rw [sp_num, if_pos c_1, if_pos h2, Nat.mul_zero, Nat.zero_add]
    · refine kt _ (p + 1) ?_ _ ((((ms.rf (SI := [14, 15]) (SA := [])).i 15 (by decide) _).i 15 (by decide) _).i 14 (by decide) _) rfl rfl
      rw [sp_num, if_pos c_1, if_neg h2, Nat.mul_zero, Nat.zero_add]
  · skip
    refine wp_if_ne (t := 9) d_Mo_takesNumber_4 (by decide) (fun c_4 => (absurd c_4 (by decide))) (fun c_4 => ?_)
    refine wp_iconst (v := 0) d_Mo_takesNumber_7 rfl ?_
    refine wp_ireturn d_Mo_takesNumber_8 rfl rfl ?_
    exact kf c_1
end MOJ
