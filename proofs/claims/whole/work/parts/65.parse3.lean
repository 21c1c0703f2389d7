/-- how many letters of a word stand there -/
def wnl (T : Nat → Nat) (n : Nat) : List Nat → Nat → Nat
  | [], _ => 0
  | x :: l, p => if sp_is T n p x then wnl T n l (p + 1) + 1 else 0
theorem wnl_le {T : Nat → Nat} {n : Nat} : ∀ (l : List Nat) (p : Nat), wnl T n l p ≤ l.length
  | [], _ => Nat.le_refl _
  | x :: l, p => by
    rw [wnl]
    have := wnl_le (T := T) (n := n) l (p + 1)
    split
    · exact Nat.succ_le_succ this
    · exact Nat.zero_le _
theorem wnl_n {T : Nat → Nat} {n : Nat} : ∀ (l : List Nat) (p : Nat), p ≤ n → p + wnl T n l p ≤ n
  | [], _, h => h
  | x :: l, p, h => by
    rw [wnl]
    by_cases hc : sp_is T n p x
    · rw [if_pos hc]
      have := wnl_n (T := T) (n := n) l (p + 1) hc.1
      omega
    · rw [if_neg hc]; omega
def wl (j : Nat) : Nat := (sp_lets j).length
def wo (a : Nat → Nat) (p : Nat) : Nat → Nat → Nat → Option Nat × Nat
  | 0, _, far => (none, p + far)
  | r + 1, j, far => if a j = wl j then (some j, p + a j) else wo a p r (j + 1) (if far < a j then a j else far)
def wa (T : Nat → Nat) (n p j : Nat) : Nat := wnl T n (sp_lets j) p
theorem wo_c {a : Nat → Nat} {p w : Nat} (hw : w < 5) (h : ∀ j, j < 5 → j ≠ w → a j ≤ a w ∧ a j ≠ wl j) : wo a p 5 0 0 = if a w = wl w then (some w, p + a w) else (none, p + a w) := by
  have F : ∀ r j far : Nat, j + r = 5 → (w < j → a w ≠ wl w) → (w < j → far = a w) → far ≤ a w → wo a p r j far = if a w = wl w then (some w, p + a w) else (none, p + a w) := by
    intro r
    induction r with
    | zero => intro j far hj h1 h2 h3; rw [wo, if_neg (h1 (by omega)), h2 (by omega)]
    | succ r ih =>
      intro j far hj h1 h2 h3
      rw [wo]
      by_cases hjw : j = w
      · subst hjw
        by_cases ha : a j = wl j
        · rw [if_pos ha, if_pos ha]
        · rw [if_neg ha]
          exact ih (j + 1) _ (by omega) (fun _ => ha) (fun _ => by split <;> omega) (by split <;> omega)
      · have hj2 := h j (by omega) hjw
        rw [if_neg hj2.2]
        refine ih (j + 1) _ (by omega) (fun _ => h1 (by omega)) (fun _ => ?_) (by split <;> omega)
        have := h2 (by omega)
        split <;> omega
  exact F 5 0 0 rfl (fun z => absurd z (Nat.not_lt_zero _)) (fun z => absurd z (Nat.not_lt_zero _)) (Nat.zero_le _)
theorem tw_wnl {T : Nat → Nat} {n : Nat} : ∀ (l : List Nat) (p : Nat), sp_tw T n l p = if wnl T n l p = l.length then (if sp_is T n (p + wnl T n l p) 32 then (true, p + wnl T n l p + 1) else (false, p + wnl T n l p)) else (false, p + wnl T n l p)
  | [], p => by rw [sp_tw, wnl, if_pos (show 0 = [].length from rfl)]; rfl
  | x :: l, p => by
    rw [sp_tw, wnl]
    by_cases hc : sp_is T n p x
    · rw [if_pos hc, if_pos hc, tw_wnl l (p + 1)]
      have e : p + (wnl T n l (p + 1) + 1) = p + 1 + wnl T n l (p + 1) := by omega
      rw [e]
      by_cases hl : wnl T n l (p + 1) = l.length
      · rw [if_pos hl, if_pos (show wnl T n l (p + 1) + 1 = (x :: l).length from congrArg (· + 1) hl)]
      · rw [if_neg hl, if_neg (show ¬ wnl T n l (p + 1) + 1 = (x :: l).length from fun z => hl (Nat.succ.inj z))]
    · rw [if_neg hc, if_neg hc, if_neg (show ¬ 0 = (x :: l).length from fun z => absurd z (by rw [List.length_cons]; omega)), Nat.add_zero]
theorem wa_0 {T : Nat → Nat} {n p x : Nat} {l : List Nat} (h : ¬ sp_is T n p x) : wnl T n (x :: l) p = 0 := by rw [wnl, if_neg h]
theorem wa_1 {T : Nat → Nat} {n p x y : Nat} {l : List Nat} (h : ¬ sp_is T n (p + 1) y) : wnl T n (x :: y :: l) p = if sp_is T n p x then 1 else 0 := by rw [wnl, wnl, if_neg h]
theorem wa_2 {T : Nat → Nat} {n p x : Nat} {l : List Nat} : (if sp_is T n p x then 1 else 0) ≤ wnl T n (x :: l) p := by
  rw [wnl]
  split
  · exact Nat.succ_le_succ (Nat.zero_le _)
  · exact Nat.zero_le _
theorem wd_c {T : Nat → Nat} {n p : Nat} : ∀ j, j < 5 → j ≠ sp_wd T n p → wa T n p j ≤ wa T n p (sp_wd T n p) ∧ wa T n p j ≠ wl j := by
  have Z : ∀ {x y : Nat}, x ≠ y → sp_is T n p x → ¬ sp_is T n p y := fun hxy h1 h2 => hxy (h1.2.symm.trans h2.2)
  have Z1 : ∀ {x y : Nat}, x ≠ y → sp_is T n (p + 1) x → ¬ sp_is T n (p + 1) y := fun hxy h1 h2 => hxy (h1.2.symm.trans h2.2)
  intro j hj hjw
  have B : wa T n p j = 0 → wa T n p j ≤ wa T n p (sp_wd T n p) ∧ wa T n p j ≠ wl j := by
    intro h0
    rw [h0]
    refine ⟨Nat.zero_le _, ?_⟩
    match j, hj with
    | 0, _ => decide
    | 1, _ => decide
    | 2, _ => decide
    | 3, _ => decide
    | 4, _ => decide
  by_cases hs : sp_is T n p 115
  · rw [sp_wd, if_pos hs] at hjw
    apply B
    match j, hj, hjw with
    | 0, _, h => exact absurd rfl h
    | 1, _, _ => exact wa_0 (Z (by decide) hs)
    | 2, _, _ => exact wa_0 (Z (by decide) hs)
    | 3, _, _ => exact wa_0 (Z (by decide) hs)
    | 4, _, _ => exact wa_0 (Z (by decide) hs)
  · by_cases hq : sp_is T n p 113
    · rw [sp_wd, if_neg hs, if_pos hq] at hjw
      apply B
      match j, hj, hjw with
      | 0, _, _ => exact wa_0 hs
      | 1, _, h => exact absurd rfl h
      | 2, _, _ => exact wa_0 (Z (by decide) hq)
      | 3, _, _ => exact wa_0 (Z (by decide) hq)
      | 4, _, _ => exact wa_0 (Z (by decide) hq)
    · by_cases hp : sp_is T n p 112
      · rw [sp_wd, if_neg hs, if_neg hq, if_pos hp] at hjw
        apply B
        match j, hj, hjw with
        | 0, _, _ => exact wa_0 hs
        | 1, _, _ => exact wa_0 hq
        | 2, _, _ => exact wa_0 (Z (by decide) hp)
        | 3, _, _ => exact wa_0 (Z (by decide) hp)
        | 4, _, h => exact absurd rfl h
      · by_cases hi : sp_is T n (p + 1) 105
        · have e : sp_wd T n p = 2 := by rw [sp_wd, if_neg hs, if_neg hq, if_neg hp, if_pos hi]
          rw [e] at hjw
          match j, hj, hjw with
          | 0, _, _ => exact B (wa_0 hs)
          | 1, _, _ => exact B (wa_0 hq)
          | 2, _, h => exact absurd rfl h
          | 3, _, _ =>
            have e3 : wa T n p 3 = if sp_is T n p 114 then 1 else 0 := wa_1 (Z1 (by decide) hi)
            rw [e, e3]
            exact ⟨wa_2, by split <;> decide⟩
          | 4, _, _ => exact B (wa_0 hp)
        · have e : sp_wd T n p = 3 := by rw [sp_wd, if_neg hs, if_neg hq, if_neg hp, if_neg hi]
          rw [e] at hjw
          match j, hj, hjw with
          | 0, _, _ => exact B (wa_0 hs)
          | 1, _, _ => exact B (wa_0 hq)
          | 2, _, _ =>
            have e3 : wa T n p 2 = if sp_is T n p 114 then 1 else 0 := wa_1 hi
            rw [e, e3]
            exact ⟨wa_2, by split <;> decide⟩
          | 3, _, h => exact absurd rfl h
          | 4, _, _ => exact B (wa_0 hp)
/-- a word's letters: all of it, or where it ends -/
theorem hd_wo {T : Nat → Nat} {n p : Nat} : (wo (wa T n p) p 5 0 0 = (some (sp_wd T n p), p + wa T n p (sp_wd T n p)) ∧ sp_hd T n p = (if sp_is T n (p + wa T n p (sp_wd T n p)) 32 then (true, p + wa T n p (sp_wd T n p) + 1) else (false, p + wa T n p (sp_wd T n p)))) ∨ (wo (wa T n p) p 5 0 0 = (none, p + wa T n p (sp_wd T n p)) ∧ sp_hd T n p = (false, p + wa T n p (sp_wd T n p))) := by
  rw [wo_c (Nat.lt_succ_of_le sp_wd_4) wd_c, sp_hd, tw_wnl]
  by_cases h : wa T n p (sp_wd T n p) = wl (sp_wd T n p)
  · refine Or.inl ⟨if_pos h, ?_⟩
    exact if_pos h
  · refine Or.inr ⟨if_neg h, ?_⟩
    exact if_neg h
theorem sb_w : ∀ j, j < 5 → ∀ i, i < wl j → ∀ x, (sp_lets j)[i]? = some x → sbt 0 (5 * j + i) = nI x ∧ x < 128 ∧ x ≠ 46 := by
  have h : ∀ j, j < 5 → ∀ i, i < wl j → sbt 0 (5 * j + i) = nI ((sp_lets j).getD i 0) ∧ (sp_lets j).getD i 0 < 128 ∧ (sp_lets j).getD i 0 ≠ 46 := by decide +kernel
  intro j hj i hi x hx
  have := h j hj i hi
  rw [List.getD_eq_getElem?_getD, hx] at this
  exact this
theorem sb_e : ∀ j, j < 5 → wl j ≤ 5 ∧ (wl j < 5 → sbt 0 (5 * j + wl j) = nI 46) := by decide +kernel
theorem sb_n : ∀ j, j < 5 → ∀ i, i < wl j → sbt 0 (5 * j + i) ≠ nI 46 := by decide +kernel
theorem dv5 : ∀ j, j < 5 → nI (5 * j) / nI 5 = nI j := by decide +kernel

section TPW
variable {G : px_G} {D : Nat} {h0 : px_H} {c n p : Nat} {cc0 f : Nat → Int32} {w : Int32 × Int32 × Int32} {os : List Int32} {T : Nat → Nat} {Q : Option Value → px_H → Prop}
set_option maxRecDepth 4000 in
theorem l_Sc_readWord_15 {far j : Nat} (hD : 4 ≤ D) (hX : ph_ok h0 c f) (hT : ph_tx f T n) (hpn : p ≤ n) (hj : j < 5) : ∀ (l : List Nat) (s : Nat), s + l.length = wl j → (∀ i x, l[i]? = some x → (sp_lets j)[s + i]? = some x) → px_W G D 0 0 m_Sc_readWord 74 [some (.ref c), some (.int (nI far)), some (.int (nI (5 * j))), some (.int (nI (s + wnl T n l (p + s))))] [] (PS h0 c n cc0 w p os) Q → px_W G D 0 0 m_Sc_readWord 15 [some (.ref c), some (.int (nI far)), some (.int (nI (5 * j))), some (.int (nI (s)))] [] (PS h0 c n cc0 w p os) Q := by
  have hn := hT.1
  have he := sb_e j hj
  intro l
  induction l with
  | nil =>
    intro s hs hall k
    have hsl : s = wl j := hs
    rw [show s + wnl T n [] (p + s) = s from rfl] at k
    refine wp_iload_n d_Sc_readWord_15 rfl rfl ?_
    refine wp_iconst (v := (nI 5)) d_Sc_readWord_16 rfl ?_
    refine wp_icmp_ge (t := 74) d_Sc_readWord_17 (by decide) (fun c_17 => ?_) (fun c_17 => ?_)
    · skip
      exact k
    · skip
      refine wp_ldcS (i := 0) rfl (by decide) d_Sc_readWord_20 ?_
      refine wp_iload_n d_Sc_readWord_22 rfl rfl ?_
      refine wp_iload_n d_Sc_readWord_23 rfl rfl ?_
      refine wp_iadd d_Sc_readWord_24 ?_
      have h5 : s < 5 := Decidable.of_not_not (fun z => c_17 (nI_le (by omega) (by omega)))
      rw [nI_add]
      refine wp_callSTR (i := 0) (M' := m_Sg_charAt) (as := [_]) (D' := D - 1) (C1 := 0) (C2 := 0) (S1 := 0) (S2 := 0) (by decide) d_Sc_readWord_25 w_537 w_538 w_539 k_Sg_charAt (Nat.le_of_ble_eq_true rfl) rfl (Nat.le_of_ble_eq_true rfl) (by omega) rfl rfl ?_
      refine c_Sg_charAt (by omega) (i := 0) (by decide) (show _ < 25 by omega) ?_
      rw [show sbt 0 (5 * j + s) = nI 46 from by rw [hsl]; exact he.2 (by omega)]
      refine wp_bipush (v := (nI 46)) d_Sc_readWord_28 (by decide) ?_
      refine wp_icmp_eq (t := 74) d_Sc_readWord_30 (by decide) (fun c_30 => ?_) (fun c_30 => absurd rfl c_30)
      exact k
  | cons x l ih =>
    intro s hs hall k
    have hsw : s < wl j := by rw [← hs]; exact Nat.lt_add_of_pos_right (Nat.succ_pos _)
    have hx := sb_w j hj s hsw x (hall 0 x rfl)
    have hs' : s + 1 + l.length = wl j := by rw [← hs, List.length_cons]; omega
    refine wp_iload_n d_Sc_readWord_15 rfl rfl ?_
    refine wp_iconst (v := (nI 5)) d_Sc_readWord_16 rfl ?_
    refine wp_icmp_ge (t := 74) d_Sc_readWord_17 (by decide) (fun c_17 => absurd c_17 (nI_ge (by omega) (by decide))) (fun c_17 => ?_)
    refine wp_ldcS (i := 0) rfl (by decide) d_Sc_readWord_20 ?_
    refine wp_iload_n d_Sc_readWord_22 rfl rfl ?_
    refine wp_iload_n d_Sc_readWord_23 rfl rfl ?_
    refine wp_iadd d_Sc_readWord_24 ?_
    rw [nI_add]
    refine wp_callSTR (i := 0) (M' := m_Sg_charAt) (as := [_]) (D' := D - 1) (C1 := 0) (C2 := 0) (S1 := 0) (S2 := 0) (by decide) d_Sc_readWord_25 w_537 w_538 w_539 k_Sg_charAt (Nat.le_of_ble_eq_true rfl) rfl (Nat.le_of_ble_eq_true rfl) (by omega) rfl rfl ?_
    refine c_Sg_charAt (by omega) (i := 0) (by decide) (show _ < 25 by omega) ?_
    rw [show sbt 0 (5 * j + s) = nI x from hx.1]
    refine wp_bipush (v := (nI 46)) d_Sc_readWord_28 (by decide) ?_
    refine wp_icmp_eq (t := 74) d_Sc_readWord_30 (by decide) (fun c_30 => absurd ((nI_eq (by omega) (by decide)).mp c_30) hx.2.2) (fun c_30 => ?_)
    refine wp_aload_n d_Sc_readWord_33 rfl rfl rfl ?_
    refine wp_getf d_Sc_readWord_34 gf_Sc_48_3 (pz_c hX) rfl ?_
    refine wp_iload_n d_Sc_readWord_37 rfl rfl ?_
    refine wp_iadd d_Sc_readWord_38 ?_
    rw [nI_add]
    refine wp_aload_n d_Sc_readWord_39 rfl rfl rfl ?_
    refine wp_getf d_Sc_readWord_40 gf_Sc_45_3 (pz_c hX) rfl ?_
    refine wp_icmp_ge (t := 74) d_Sc_readWord_43 (by decide) (fun c_43 => ?_) (fun c_43 => ?_)
    · skip
      first
        | (have hc : ¬ sp_is T n (p + s) x := fun z => c_65 ((nI_eq (by omega) (by omega)).mpr z.2.symm)
           rw [wnl, if_neg hc] at k
           exact k)
        | (have hc : ¬ sp_is T n (p + s) x := fun z => absurd (nI_lt z.1 (by omega)) (Int32.not_lt.mpr c_43)
           rw [wnl, if_neg hc] at k
           exact k)
    · skip
      have hlt : p + s < n := Decidable.of_not_not (fun z => c_43 (nI_le (by omega) (by omega)))
      have hTp := (hT.2 _ hlt).1
      refine wp_ldcS (i := 0) rfl (by decide) d_Sc_readWord_46 ?_
      refine wp_iload_n d_Sc_readWord_48 rfl rfl ?_
      refine wp_iload_n d_Sc_readWord_49 rfl rfl ?_
      refine wp_iadd d_Sc_readWord_50 ?_
      rw [nI_add]
      refine wp_callSTR (i := 0) (M' := m_Sg_charAt) (as := [_]) (D' := D - 1) (C1 := 0) (C2 := 0) (S1 := 0) (S2 := 0) (by decide) d_Sc_readWord_51 w_537 w_538 w_539 k_Sg_charAt (Nat.le_of_ble_eq_true rfl) rfl (Nat.le_of_ble_eq_true rfl) (by omega) rfl rfl ?_
      refine c_Sg_charAt (by omega) (i := 0) (by decide) (show _ < 25 by omega) ?_
      rw [show sbt 0 (5 * j + s) = nI x from hx.1]
      refine wp_aload_n d_Sc_readWord_54 rfl rfl rfl ?_
      refine wp_getf d_Sc_readWord_55 gf_Sc_38_3 (pz_c hX) rfl ?_
      refine wp_aload_n d_Sc_readWord_58 rfl rfl rfl ?_
      refine wp_getf d_Sc_readWord_59 gf_Sc_48_3 (pz_c hX) rfl ?_
      refine wp_iload_n d_Sc_readWord_62 rfl rfl ?_
      refine wp_iadd d_Sc_readWord_63 ?_
      rw [nI_add]
      refine wp_cald d_Sc_readWord_64 (pz_42 hX) (vp_in_nI (by omega) (by decide)) ?_
      rw [nI_clamp (by omega), (hT.2 _ hlt).2]
      refine wp_icmp_ne (t := 74) d_Sc_readWord_65 (by decide) (fun c_65 => ?_) (fun c_65 => ?_)
      · skip
        first
          | (have hc : ¬ sp_is T n (p + s) x := fun z => c_65 ((nI_eq (by omega) (by omega)).mpr z.2.symm)
             rw [wnl, if_neg hc] at k
             exact k)
          | (have hc : ¬ sp_is T n (p + s) x := fun z => absurd (nI_lt z.1 (by omega)) (Int32.not_lt.mpr c_43)
             rw [wnl, if_neg hc] at k
             exact k)
      · skip
        refine wp_iinc (v := (nI (s + 1))) (ls' := [_, _, _, _]) d_Sc_readWord_68 (by decide) rfl (nI_1 s) rfl ?_
        refine wp_goto (t := 15) d_Sc_readWord_71 (by decide) ?_
        have hc : sp_is T n (p + s) x := ⟨hlt, (nI_eq (by omega) (by omega)).mp c_65.symm⟩
        rw [wnl, if_pos hc, show s + (wnl T n l (p + s + 1) + 1) = s + 1 + wnl T n l (p + (s + 1)) by rw [Nat.add_assoc p s 1]; omega] at k
        exact ih (s + 1) (by omega) (fun i y hy => by have := hall (i + 1) y hy; rwa [show s + (i + 1) = s + 1 + i by omega] at this) k
theorem mx_n {far b : Nat} (h1 : far < 2 ^ 31) (h2 : b < 2 ^ 31) : (if nI far < nI b then nI b else nI far) = nI (if far < b then b else far) := by
  by_cases h : far < b
  · rw [if_pos h, if_pos (nI_lt h h2)]
  · rw [if_neg h, if_neg (nI_nlt (by omega) h1)]
set_option maxRecDepth 4000 in
theorem l_Sc_readWord_4 (hD : 4 ≤ D) (hX : ph_ok h0 c f) (hT : ph_tx f T n) (hpn : p ≤ n) : ∀ (r j far : Nat) (x3 : Option Value), j + r = 5 → far ≤ 5 → (∀ j' p1, wo (wa T n p) p r j far = (some j', p1) → Q (some (.int (nI j'))) (PS h0 c n cc0 w p1 os)) → (∀ p1, wo (wa T n p) p r j far = (none, p1) → Q (some (.int (-1))) (PS h0 c n cc0 w p1 os)) → px_W G D 0 0 m_Sc_readWord 4 [some (.ref c), some (.int (nI far)), some (.int (nI (5 * j))), x3] [] (PS h0 c n cc0 w p os) Q := by
  have hn := hT.1
  intro r
  induction r with
  | zero =>
    intro j far x3 hjr hfar k1 k2
    obtain rfl : j = 5 := hjr
    refine wp_iload_n d_Sc_readWord_4 rfl rfl ?_
    refine wp_ldcS (i := 0) rfl (by decide) d_Sc_readWord_5 ?_
    refine wp_callSTR (i := 0) (M' := m_Sg_length) (as := []) (D' := D - 1) (C1 := 0) (C2 := 0) (S1 := 0) (S2 := 0) (by decide) d_Sc_readWord_7 w_527 w_528 w_529 k_Sg_length (Nat.le_of_ble_eq_true rfl) rfl (Nat.le_of_ble_eq_true rfl) (by omega) rfl rfl ?_
    refine c_Sg_length (by omega) (i := 0) (by decide) ?_
    refine wp_icmp_ge (t := 118) d_Sc_readWord_10 (by decide) (fun c_10 => ?_) (fun c_10 => absurd (show nI 25 ≤ nI 25 from Int32.le_refl _) c_10)
    refine wp_aload_n d_Sc_readWord_118 rfl rfl rfl ?_
    refine wp_dup d_Sc_readWord_119 rfl ?_
    refine wp_getf d_Sc_readWord_120 gf_Sc_48_3 (pz_c hX) rfl ?_
    refine wp_iload_n d_Sc_readWord_123 rfl rfl ?_
    refine wp_iadd d_Sc_readWord_124 ?_
    rw [nI_add]
    refine wp_putf d_Sc_readWord_125 pgf_Sc_48_3 (pz_c hX) (Nat.le_of_ble_eq_true rfl) rfl rfl (pz_sc hX) ?_
    refine wp_iconst (v := -1) d_Sc_readWord_128 rfl ?_
    refine wp_ireturn d_Sc_readWord_129 rfl rfl ?_
    exact k2 _ rfl
  | succ r ih =>
    intro j far x3 hjr hfar k1 k2
    have hj : j < 5 := by omega
    have he := sb_e j hj
    have hle : wa T n p j ≤ wl j := wnl_le _ _
    have hwn : p + wa T n p j ≤ n := wnl_n _ _ hpn
    refine wp_iload_n d_Sc_readWord_4 rfl rfl ?_
    refine wp_ldcS (i := 0) rfl (by decide) d_Sc_readWord_5 ?_
    refine wp_callSTR (i := 0) (M' := m_Sg_length) (as := []) (D' := D - 1) (C1 := 0) (C2 := 0) (S1 := 0) (S2 := 0) (by decide) d_Sc_readWord_7 w_527 w_528 w_529 k_Sg_length (Nat.le_of_ble_eq_true rfl) rfl (Nat.le_of_ble_eq_true rfl) (by omega) rfl rfl ?_
    refine c_Sg_length (by omega) (i := 0) (by decide) ?_
    refine wp_icmp_ge (t := 118) d_Sc_readWord_10 (by decide) (fun c_10 => absurd c_10 (nI_ge (show 5 * j < 25 by omega) (by decide))) (fun c_10 => ?_)
    refine wp_iconst (v := (nI 0)) d_Sc_readWord_13 rfl ?_
    refine wp_istore_n (ls' := [_, _, _, _]) d_Sc_readWord_14 rfl (by decide) rfl ?_
    refine l_Sc_readWord_15 hD hX hT hpn hj (sp_lets j) 0 (Nat.zero_add _) (fun i x hx => by rw [Nat.zero_add]; exact hx) ?_
    rw [Nat.zero_add, show wnl T n (sp_lets j) (p + 0) = wa T n p j from rfl]
    refine wp_iload_n d_Sc_readWord_74 rfl rfl ?_
    refine wp_iconst (v := (nI 5)) d_Sc_readWord_75 rfl ?_
    refine wp_icmp_eq (t := 92) d_Sc_readWord_76 (by decide) (fun c_76 => ?_) (fun c_76 => ?_)
    · skip
      have hfu : wa T n p j = wl j := by
        first
          | (have := (nI_eq (by omega) (by decide)).mp c_76; omega)
          | exact Decidable.of_not_not (fun z => absurd (Decidable.of_not_not c_89) (sb_n j hj _ (by omega)))
          | exact Decidable.of_not_not (fun z => absurd c_89 (sb_n j hj _ (by omega)))
      refine wp_aload_n d_Sc_readWord_92 rfl rfl rfl ?_
      refine wp_dup d_Sc_readWord_93 rfl ?_
      refine wp_getf d_Sc_readWord_94 gf_Sc_48_3 (pz_c hX) rfl ?_
      refine wp_iload_n d_Sc_readWord_97 rfl rfl ?_
      refine wp_iadd d_Sc_readWord_98 ?_
      rw [nI_add]
      refine wp_putf d_Sc_readWord_99 pgf_Sc_48_3 (pz_c hX) (Nat.le_of_ble_eq_true rfl) rfl rfl (pz_sc hX) ?_
      refine wp_iload_n d_Sc_readWord_102 rfl rfl ?_
      refine wp_iconst (v := (nI 5)) d_Sc_readWord_103 rfl ?_
      refine wp_idiv d_Sc_readWord_104 (by decide) ?_
      rw [dv5 j hj]
      refine wp_ireturn d_Sc_readWord_105 rfl rfl ?_
      exact k1 _ _ (by rw [wo, if_pos hfu])
    · skip
      have hw5 : wa T n p j < 5 := by
        have : ¬ wa T n p j = 5 := fun z => c_76 (by rw [z])
        omega
      refine wp_ldcS (i := 0) rfl (by decide) d_Sc_readWord_79 ?_
      refine wp_iload_n d_Sc_readWord_81 rfl rfl ?_
      skip
      refine wp_iload_n d_Sc_readWord_82 rfl rfl ?_
      refine wp_iadd d_Sc_readWord_83 ?_
      rw [nI_add]
      refine wp_callSTR (i := 0) (M' := m_Sg_charAt) (as := [_]) (D' := D - 1) (C1 := 0) (C2 := 0) (S1 := 0) (S2 := 0) (by decide) d_Sc_readWord_84 w_537 w_538 w_539 k_Sg_charAt (Nat.le_of_ble_eq_true rfl) rfl (Nat.le_of_ble_eq_true rfl) (by omega) rfl rfl ?_
      refine c_Sg_charAt (by omega) (i := 0) (by decide) (show _ < 25 by omega) ?_
      refine wp_bipush (v := (nI 46)) d_Sc_readWord_87 (by decide) ?_
      refine wp_icmp_ne (t := 106) d_Sc_readWord_89 (by decide) (fun c_89 => ?_) (fun c_89 => ?_)
      · skip
        have hnf : ¬ wa T n p j = wl j := fun z => c_89 (by rw [z]; exact he.2 (by omega))
        refine wp_iload_n d_Sc_readWord_106 rfl rfl ?_
        refine wp_iload_n d_Sc_readWord_107 rfl rfl ?_
        refine wp_max d_Sc_readWord_108 w_108 (Nat.le_of_ble_eq_true rfl) (by omega) ?_
        rw [mx_n (far := far) (by omega) (by omega)]
        refine wp_istore_n (ls' := [_, _, _, _]) d_Sc_readWord_111 rfl (by decide) rfl ?_
        refine wp_iinc (v := (nI (5 * (j + 1)))) (ls' := [_, _, _, _]) d_Sc_readWord_112 (by decide) rfl (show nI (5 * j) + nI 5 = nI (5 * (j + 1)) from by rw [nI_add]; exact congrArg nI (by omega)) rfl ?_
        refine wp_goto (t := 4) d_Sc_readWord_115 (by decide) ?_
        exact ih (j + 1) _ _ (by omega) (by split <;> omega) (fun j' p1 h => k1 j' p1 (by rw [wo, if_neg hnf]; exact h)) (fun p1 h => k2 p1 (by rw [wo, if_neg hnf]; exact h))
      · skip
        have hfu : wa T n p j = wl j := by
          first
            | (have := (nI_eq (by omega) (by decide)).mp c_76; omega)
            | exact Decidable.of_not_not (fun z => absurd (Decidable.of_not_not c_89) (sb_n j hj _ (by omega)))
            | exact Decidable.of_not_not (fun z => absurd c_89 (sb_n j hj _ (by omega)))
        refine wp_aload_n d_Sc_readWord_92 rfl rfl rfl ?_
        refine wp_dup d_Sc_readWord_93 rfl ?_
        refine wp_getf d_Sc_readWord_94 gf_Sc_48_3 (pz_c hX) rfl ?_
        refine wp_iload_n d_Sc_readWord_97 rfl rfl ?_
        refine wp_iadd d_Sc_readWord_98 ?_
        rw [nI_add]
        refine wp_putf d_Sc_readWord_99 pgf_Sc_48_3 (pz_c hX) (Nat.le_of_ble_eq_true rfl) rfl rfl (pz_sc hX) ?_
        refine wp_iload_n d_Sc_readWord_102 rfl rfl ?_
        refine wp_iconst (v := (nI 5)) d_Sc_readWord_103 rfl ?_
        refine wp_idiv d_Sc_readWord_104 (by decide) ?_
        rw [dv5 j hj]
        refine wp_ireturn d_Sc_readWord_105 rfl rfl ?_
        exact k1 _ _ (by rw [wo, if_pos hfu])
set_option maxRecDepth 4000 in
theorem c_Sc_readWord  (hD : 4 ≤ D) (hX : ph_ok h0 c f) (hT : ph_tx f T n) (hpn : p ≤ n) (k1 : ∀ j' p1, wo (wa T n p) p 5 0 0 = (some j', p1) → Q (some (.int (nI j'))) (PS h0 c n cc0 w p1 os)) (k2 : ∀ p1, wo (wa T n p) p 5 0 0 = (none, p1) → Q (some (.int (-1))) (PS h0 c n cc0 w p1 os)) : px_W G D 0 0 m_Sc_readWord 0 (px_ent 4 [.ref c]) [] (PS h0 c n cc0 w p os) Q := by
  show px_W _ _ _ _ _ _ [some (.ref c), none, none, none] [] _ _
  refine wp_iconst (v := (nI 0)) d_Sc_readWord_0 rfl ?_
  refine wp_istore_n (ls' := [_, _, _, _]) d_Sc_readWord_1 rfl (by decide) rfl ?_
  refine wp_iconst (v := (nI 0)) d_Sc_readWord_2 rfl ?_
  refine wp_istore_n (ls' := [_, _, _, _]) d_Sc_readWord_3 rfl (by decide) rfl ?_
  exact l_Sc_readWord_4 hD hX hT hpn 5 0 0 none rfl (by decide) k1 k2
end TPW
