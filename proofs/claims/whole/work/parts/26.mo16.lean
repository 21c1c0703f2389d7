/-! ORDER: the rows of n men, in the order of their numbers -/
def sp_fac : Nat → Nat
  | 0 => 1
  | n + 1 => (n + 1) * sp_fac n
def sp_seek (left : Int32) : Nat → Int32 → Nat → Option Nat
  | 0, _, _ => none
  | q + 1, nth, m => if (left >>> (nI m &&& 31)) &&& 1 = 1 then (if 0 < nth then sp_seek left q (nth - 1) (m + 1) else some m) else sp_seek left q (nth - 0) (m + 1)
def sp_lo (n : Nat) : Nat → Nat → Int32 → Int32 → Int32 → Option (List Nat)
  | 0, _, _, _, _ => some []
  | q + 1, k, ways, left, over =>
    if ways / nI (n - k) = 0 then none
    else match sp_seek left 6 (over / (ways / nI (n - k))) 0 with
      | none => none
      | some m => match sp_lo n q (k + 1) (ways / nI (n - k)) (left &&& ((1 <<< (nI m &&& 31)) ^^^ -1)) (over - over / (ways / nI (n - k)) * (ways / nI (n - k))) with
        | none => none
        | some l => some (m :: l)
def sp_row (n k : Nat) : Option (List Nat) := sp_lo n n 0 (nI (sp_fac n)) ((1 <<< (nI n &&& 31)) - 1) (nI k)
def sp_pm (n k : Nat) : List Nat := (sp_row n k).getD []
theorem sp_rows : ∀ n : Nat, n < 5 → ∀ k : Nat, k < 24 → k < sp_fac n → (sp_row n k).isSome = true ∧ (sp_pm n k).length = n ∧ (sp_pm n k).all (fun m => decide (m < n)) = true := by decide +kernel
theorem sp_fac_24 : ∀ n : Nat, n < 5 → sp_fac n ≤ 24 ∧ 0 < sp_fac n := by decide +kernel
theorem sp_row_e {n k : Nat} (hn : n < 5) (hk : k < sp_fac n) : sp_row n k = some (sp_pm n k) := by
  have h := (sp_rows n hn k (by have := (sp_fac_24 n hn).1; omega) hk).1
  unfold sp_pm
  cases hr : sp_row n k with
  | none => rw [hr] at h; exact absurd h (by decide)
  | some l => rfl
theorem sp_pm_l {n k : Nat} (hn : n < 5) (hk : k < sp_fac n) : (sp_pm n k).length = n := (sp_rows n hn k (by have := (sp_fac_24 n hn).1; omega) hk).2.1
theorem sp_pm_b {n k j : Nat} (hn : n < 5) (hk : k < sp_fac n) (hj : j < n) : (sp_pm n k).getD j 0 < n := by
  have h := (sp_rows n hn k (by have := (sp_fac_24 n hn).1; omega) hk).2
  have hl := h.1
  have h2 := List.all_eq_true.mp h.2
  rw [List.getD_eq_getElem?_getD, List.getElem?_eq_getElem (by omega)]
  exact of_decide_eq_true (h2 _ (List.getElem_mem (by omega)))
/-- a list put down from k on -/
def sp_put (f : Nat → Int32) : Nat → List Nat → Nat → Int32
  | _, [] => f
  | k, m :: l => sp_put (upd f k (nI m)) (k + 1) l
theorem sp_put_lo : ∀ {l : List Nat} {f : Nat → Int32} {k j : Nat}, j < k → sp_put f k l j = f j := by
  intro l
  induction l with
  | nil => intro f k j h; rfl
  | cons m l ih => intro f k j h; show sp_put (upd f k (nI m)) (k + 1) l j = f j; rw [ih (by omega)]; exact if_neg (by omega)
theorem sp_put_hi : ∀ {l : List Nat} {f : Nat → Int32} {k j : Nat}, k + l.length ≤ j → sp_put f k l j = f j := by
  intro l
  induction l with
  | nil => intro f k j h; rfl
  | cons m l ih =>
    intro f k j h
    have h2 : (m :: l).length = l.length + 1 := rfl
    show sp_put (upd f k (nI m)) (k + 1) l j = f j
    rw [ih (by omega)]
    exact if_neg (by omega)
theorem sp_put_in : ∀ {l : List Nat} {f : Nat → Int32} {k j : Nat}, j < l.length → sp_put f k l (k + j) = nI (l.getD j 0) := by
  intro l
  induction l with
  | nil => intro f k j h; exact absurd h (Nat.not_lt_zero j)
  | cons m l ih =>
    intro f k j h
    show sp_put (upd f k (nI m)) (k + 1) l (k + j) = nI ((m :: l).getD j 0)
    cases j with
    | zero => rw [Nat.add_zero, sp_put_lo (by omega)]; exact if_pos rfl
    | succ j =>
      have h2 : (m :: l).length = l.length + 1 := rfl
      rw [show k + (j + 1) = (k + 1) + j from by omega, ih (by omega)]
      rfl
def sp_hu (x : Int32) : Int32 := if x < 0 then 100 else x
def sp_ord (g : Nat → Int32) : Nat → Nat → Int32 × Nat → Int32 × Nat
  | 0, _, z => z
  | q + 1, k, z => if z.1 ≤ sp_hu (g k) then sp_ord g q (k + 1) z else sp_ord g q (k + 1) (sp_hu (g k), k)
theorem sp_safe_b {g : Int32 → Int32} {n : Int32} : ∀ (q b : Nat), b + q ≤ 100 → sp_safe g n q b < 0 ∨ ∃ a, a < 100 ∧ sp_safe g n q b = nI a := by
  intro q
  induction q with
  | zero => intro b h; exact Or.inl (by show (-5 : Int32) < 0; decide)
  | succ q ih =>
    intro b h
    by_cases hc : g (nI b) = n
    · exact Or.inr ⟨b, by omega, by rw [sp_safe, if_pos hc]⟩
    · rw [sp_safe, if_neg hc]; exact ih (b + 1) (by omega)
theorem sp_hu_b {g : Int32 → Int32} {n : Int32} : ∃ a, a ≤ 100 ∧ sp_hu (sp_safe g n 99 1) = nI a := by
  rcases sp_safe_b (g := g) (n := n) 99 1 (by decide) with h | ⟨a, h1, h2⟩
  · exact ⟨100, by decide, if_pos h⟩
  · exact ⟨a, by omega, by rw [sp_hu, if_neg (by rw [h2]; exact nI_pos (by omega)), h2]⟩
section MOG
variable {G : px_G} {D : Nat} {X E : px_H} {I : Nat → Int32} {A : Nat → Nat → Int32} {L : Nat → Nat → Int64} {Q : Option Value → px_H → Prop}
set_option maxRecDepth 4000 in
theorem l_Mo_layOrder_78 {left : Int32} {a1 a2 a3 a4 : Int32} (hD : 1 ≤ D) : ∀ (q : Nat) (nth : Int32) (m r : Nat), m + q ≤ 32 → sp_seek left q nth m = some r → (∀ w : Int32, px_W G D 0 0 m_Mo_layOrder 119 [some (.ref X.length), some (.int a1), some (.int a2), some (.int left), some (.int a3), some (.int a4), some (.int w), some (.int (nI r))] [] (HM X I A L E) Q) → px_W G D 0 0 m_Mo_layOrder 78 [some (.ref X.length), some (.int a1), some (.int a2), some (.int left), some (.int a3), some (.int a4), some (.int nth), some (.int (nI m))] [] (HM X I A L E) Q := by
  intro q
  induction q with
  | zero => intro nth m r hm hs hq; exact absurd hs (by intro h; cases h)
  | succ q ih =>
    intro nth m r hm hs hq
    refine wp_aload_n d_Mo_layOrder_78 rfl rfl rfl ?_
    refine wp_iload_n d_Mo_layOrder_79 rfl rfl ?_
    refine wp_iload d_Mo_layOrder_80 rfl ?_
    refine wp_callV (r := (R_12, T_12, 70)) (M' := m_Mo_has) (as := [_, _]) (D' := D - 1) (C1 := 0) (C2 := 0) (S1 := 0) (S2 := 0) d_Mo_layOrder_82 rfl w_1431 w_1433 w_56 hm_0 k_Mo_has (Nat.le_of_ble_eq_true rfl) rfl (Nat.le_of_ble_eq_true rfl) (by omega) rfl rfl ?_
    refine c_Mo_has (by omega)  (fun c_82 => ?_) (fun c_82 => ?_)
    · skip
      refine wp_if_eq (t := 93) d_Mo_layOrder_85 (by decide) (fun c_85 => (absurd c_85 (by decide))) (fun c_85 => ?_)
      refine wp_iload d_Mo_layOrder_88 rfl ?_
      refine wp_if_le (t := 119) d_Mo_layOrder_90 (by decide) (fun c_90 => ?_) (fun c_90 => ?_)
      · skip
        rw [sp_seek, if_pos c_82, if_neg (Int32.not_lt.mpr c_90)] at hs
        have hr : m = r := Option.some.inj hs
        subst hr
        exact hq _
      · skip
        refine wp_iload d_Mo_layOrder_93 rfl ?_
        refine wp_aload_n d_Mo_layOrder_95 rfl rfl rfl ?_
        refine wp_iload_n d_Mo_layOrder_96 rfl rfl ?_
        refine wp_iload d_Mo_layOrder_97 rfl ?_
        refine wp_callV (r := (R_12, T_12, 70)) (M' := m_Mo_has) (as := [_, _]) (D' := D - 1) (C1 := 0) (C2 := 0) (S1 := 0) (S2 := 0) d_Mo_layOrder_99 rfl w_1431 w_1433 w_56 hm_0 k_Mo_has (Nat.le_of_ble_eq_true rfl) rfl (Nat.le_of_ble_eq_true rfl) (by omega) rfl rfl ?_
        refine c_Mo_has (by omega)  (fun c_99 => ?_) (fun c_99 => ?_)
        · skip
          refine wp_if_eq (t := 109) d_Mo_layOrder_102 (by decide) (fun c_102 => (absurd c_102 (by decide))) (fun c_102 => ?_)
          refine wp_iconst (v := 1) d_Mo_layOrder_105 rfl ?_
          refine wp_goto (t := 110) d_Mo_layOrder_106 (by decide) ?_
          refine wp_isub d_Mo_layOrder_110 ?_
          refine wp_istore (ls' := [_, _, _, _, _, _, _, _]) d_Mo_layOrder_111 (by decide) rfl ?_
          refine wp_iinc (v := _ + 1) (ls' := [_, _, _, _, _, _, _, _]) d_Mo_layOrder_113 (by decide) rfl rfl rfl ?_
          refine wp_goto (t := 78) d_Mo_layOrder_116 (by decide) ?_
          rw [show nI m + 1 = nI (m + 1) from nI_1 m]
          first
            | (rw [sp_seek, if_neg c_82] at hs; exact ih _ (m + 1) r (by omega) hs hq)
            | (rw [sp_seek, if_pos c_82, if_pos (Int32.not_le.mp c_90)] at hs; exact ih _ (m + 1) r (by omega) hs hq)
            | exact absurd c_99 c_82
            | exact absurd c_82 c_99
        · skip
          refine wp_if_eq (t := 109) d_Mo_layOrder_102 (by decide) (fun c_102 => ?_) (fun c_102 => (absurd c_102 (by decide)))
          refine wp_iconst (v := 0) d_Mo_layOrder_109 rfl ?_
          refine wp_isub d_Mo_layOrder_110 ?_
          refine wp_istore (ls' := [_, _, _, _, _, _, _, _]) d_Mo_layOrder_111 (by decide) rfl ?_
          refine wp_iinc (v := _ + 1) (ls' := [_, _, _, _, _, _, _, _]) d_Mo_layOrder_113 (by decide) rfl rfl rfl ?_
          refine wp_goto (t := 78) d_Mo_layOrder_116 (by decide) ?_
          rw [show nI m + 1 = nI (m + 1) from nI_1 m]
          first
            | (rw [sp_seek, if_neg c_82] at hs; exact ih _ (m + 1) r (by omega) hs hq)
            | (rw [sp_seek, if_pos c_82, if_pos (Int32.not_le.mp c_90)] at hs; exact ih _ (m + 1) r (by omega) hs hq)
            | exact absurd c_99 c_82
            | exact absurd c_82 c_99
    · skip
      refine wp_if_eq (t := 93) d_Mo_layOrder_85 (by decide) (fun c_85 => ?_) (fun c_85 => (absurd c_85 (by decide)))
      refine wp_iload d_Mo_layOrder_93 rfl ?_
      refine wp_aload_n d_Mo_layOrder_95 rfl rfl rfl ?_
      refine wp_iload_n d_Mo_layOrder_96 rfl rfl ?_
      refine wp_iload d_Mo_layOrder_97 rfl ?_
      refine wp_callV (r := (R_12, T_12, 70)) (M' := m_Mo_has) (as := [_, _]) (D' := D - 1) (C1 := 0) (C2 := 0) (S1 := 0) (S2 := 0) d_Mo_layOrder_99 rfl w_1431 w_1433 w_56 hm_0 k_Mo_has (Nat.le_of_ble_eq_true rfl) rfl (Nat.le_of_ble_eq_true rfl) (by omega) rfl rfl ?_
      refine c_Mo_has (by omega)  (fun c_99 => ?_) (fun c_99 => ?_)
      · skip
        refine wp_if_eq (t := 109) d_Mo_layOrder_102 (by decide) (fun c_102 => (absurd c_102 (by decide))) (fun c_102 => ?_)
        refine wp_iconst (v := 1) d_Mo_layOrder_105 rfl ?_
        refine wp_goto (t := 110) d_Mo_layOrder_106 (by decide) ?_
        refine wp_isub d_Mo_layOrder_110 ?_
        refine wp_istore (ls' := [_, _, _, _, _, _, _, _]) d_Mo_layOrder_111 (by decide) rfl ?_
        refine wp_iinc (v := _ + 1) (ls' := [_, _, _, _, _, _, _, _]) d_Mo_layOrder_113 (by decide) rfl rfl rfl ?_
        refine wp_goto (t := 78) d_Mo_layOrder_116 (by decide) ?_
        rw [show nI m + 1 = nI (m + 1) from nI_1 m]
        first
          | (rw [sp_seek, if_neg c_82] at hs; exact ih _ (m + 1) r (by omega) hs hq)
          | (rw [sp_seek, if_pos c_82, if_pos (Int32.not_le.mp c_90)] at hs; exact ih _ (m + 1) r (by omega) hs hq)
          | exact absurd c_99 c_82
          | exact absurd c_82 c_99
      · skip
        refine wp_if_eq (t := 109) d_Mo_layOrder_102 (by decide) (fun c_102 => ?_) (fun c_102 => (absurd c_102 (by decide)))
        refine wp_iconst (v := 0) d_Mo_layOrder_109 rfl ?_
        refine wp_isub d_Mo_layOrder_110 ?_
        refine wp_istore (ls' := [_, _, _, _, _, _, _, _]) d_Mo_layOrder_111 (by decide) rfl ?_
        refine wp_iinc (v := _ + 1) (ls' := [_, _, _, _, _, _, _, _]) d_Mo_layOrder_113 (by decide) rfl rfl rfl ?_
        refine wp_goto (t := 78) d_Mo_layOrder_116 (by decide) ?_
        rw [show nI m + 1 = nI (m + 1) from nI_1 m]
        first
          | (rw [sp_seek, if_neg c_82] at hs; exact ih _ (m + 1) r (by omega) hs hq)
          | (rw [sp_seek, if_pos c_82, if_pos (Int32.not_le.mp c_90)] at hs; exact ih _ (m + 1) r (by omega) hs hq)
          | exact absurd c_99 c_82
          | exact absurd c_82 c_99
set_option maxRecDepth 4000 in
theorem l_Mo_layOrder_44 {n : Nat} {a1 : Int32} (hD : 1 ≤ D) (hn0 : I 0 = nI n) (hn6 : n ≤ 6) : ∀ (q k : Nat) (ways left over : Int32) (l : List Nat) (f : Nat → Int32), k + q = n → sp_lo n q k ways left over = some l → Q (some (.int 1)) (HM X I (va_up A 10 (sp_put f k l)) L E) → px_W G D 0 0 m_Mo_layOrder 44 [some (.ref X.length), some (.int a1), some (.int ways), some (.int left), some (.int over), some (.int (nI k)), none, none] [] (HM X I (va_up A 10 f) L E) Q := by
  intro q
  induction q with
  | zero =>
    intro k ways left over l f hk hl hq
    have hl0 : [] = l := Option.some.inj hl
    subst hl0
    refine wp_iload d_Mo_layOrder_44 rfl ?_
    refine wp_aload_n d_Mo_layOrder_46 rfl rfl rfl ?_
    refine gM_0 rfl d_Mo_layOrder_47 ?_
    rw [hn0]
    refine wp_icmp_ge (t := 143) d_Mo_layOrder_50 (by decide) (fun c_50 => ?_) (fun c_50 => absurd (nI_le (by omega) (by omega)) c_50)
    refine wp_iconst (v := 1) d_Mo_layOrder_143 rfl ?_
    refine wp_ireturn d_Mo_layOrder_144 rfl rfl ?_
    exact hq
  | succ q ih =>
    intro k ways left over l f hk hl hq
    have eck : (nI k).toNatClampNeg = k := nI_clamp (by omega)
    have enk : nI n - nI k = nI (n - k) := pk_sub (by omega)
    have hnz : ¬ nI (n - k) = 0 := nI_ne0 (by omega) (by omega)
    by_cases hw0 : ways / nI (n - k) = 0
    · rw [sp_lo, if_pos hw0] at hl; cases hl
    · rw [sp_lo, if_neg hw0] at hl
      cases hs : sp_seek left 6 (over / (ways / nI (n - k))) 0 with
      | none => simp only [hs] at hl; cases hl
      | some m =>
        simp only [hs] at hl
        cases hr : sp_lo n q (k + 1) (ways / nI (n - k)) (left &&& ((1 <<< (nI m &&& 31)) ^^^ -1)) (over - over / (ways / nI (n - k)) * (ways / nI (n - k))) with
        | none =>
          simp only [hr] at hl
          cases hl
        | some l2 =>
          simp only [hr] at hl
          have hl3 : m :: l2 = l := Option.some.inj hl
          subst hl3
          refine wp_iload d_Mo_layOrder_44 rfl ?_
          refine wp_aload_n d_Mo_layOrder_46 rfl rfl rfl ?_
          refine gM_0 rfl d_Mo_layOrder_47 ?_
          rw [hn0]
          refine wp_icmp_ge (t := 143) d_Mo_layOrder_50 (by decide) (fun c_50 => absurd c_50 (nI_ge (by omega) (by omega))) (fun c_50 => ?_)
          refine wp_iload_n d_Mo_layOrder_53 rfl rfl ?_
          refine wp_aload_n d_Mo_layOrder_54 rfl rfl rfl ?_
          refine gM_0 rfl d_Mo_layOrder_55 ?_
          refine wp_iload d_Mo_layOrder_58 rfl ?_
          refine wp_isub d_Mo_layOrder_60 ?_
          rw [hn0, enk]
          refine wp_idiv d_Mo_layOrder_61 hnz ?_
          refine wp_istore_n (ls' := [_, _, _, _, _, _, _, _]) d_Mo_layOrder_62 rfl (by decide) rfl ?_
          refine wp_iload d_Mo_layOrder_63 rfl ?_
          refine wp_iload_n d_Mo_layOrder_65 rfl rfl ?_
          refine wp_idiv d_Mo_layOrder_66 hw0 ?_
          refine wp_istore (ls' := [_, _, _, _, _, _, _, _]) d_Mo_layOrder_67 (by decide) rfl ?_
          refine wp_iload d_Mo_layOrder_69 rfl ?_
          refine wp_iload_n d_Mo_layOrder_71 rfl rfl ?_
          refine wp_irem d_Mo_layOrder_72 hw0 ?_
          refine wp_istore (ls' := [_, _, _, _, _, _, _, _]) d_Mo_layOrder_73 (by decide) rfl ?_
          refine wp_iconst (v := 0) d_Mo_layOrder_75 rfl ?_
          refine wp_istore (ls' := [_, _, _, _, _, _, _, _]) d_Mo_layOrder_76 (by decide) rfl ?_
          refine l_Mo_layOrder_78 hD 6 _ 0 m (by decide) hs (fun w => ?_)
          refine wp_aload_n d_Mo_layOrder_119 rfl rfl rfl ?_
          refine gM_10 rfl d_Mo_layOrder_120 ?_
          refine wp_iload d_Mo_layOrder_123 rfl ?_
          refine wp_iload d_Mo_layOrder_125 rfl ?_
          refine sM_10 d_Mo_layOrder_127 (vp_in_nI (by omega) (by decide)) ?_
          refine wp_iload_n d_Mo_layOrder_128 rfl rfl ?_
          refine wp_iconst (v := 1) d_Mo_layOrder_129 rfl ?_
          refine wp_iload d_Mo_layOrder_130 rfl ?_
          refine wp_ishl d_Mo_layOrder_132 ?_
          refine wp_iconst (v := (-1)) d_Mo_layOrder_133 rfl ?_
          refine wp_ixor d_Mo_layOrder_134 ?_
          refine wp_iand d_Mo_layOrder_135 ?_
          refine wp_istore_n (ls' := [_, _, _, _, _, _, _, _]) d_Mo_layOrder_136 rfl (by decide) rfl ?_
          refine wp_iinc (v := _ + 1) (ls' := [_, _, _, _, _, _, _, _]) d_Mo_layOrder_137 (by decide) rfl rfl rfl ?_
          refine wp_goto (t := 44) d_Mo_layOrder_140 (by decide) ?_
          rw [eck, bx_uu, show nI k + 1 = nI (k + 1) from nI_1 k]
          refine wp_less (ls' := [some (.ref X.length), some (.int a1), some (.int _), some (.int _), some (.int _), some (.int _), none, none]) ⟨rfl, rfl, rfl, rfl, rfl, rfl, trivial⟩ ?_
          exact ih (k + 1) _ _ _ l2 _ (by omega) hr hq
set_option maxRecDepth 4000 in
theorem l_Mo_layOrder_4 {n : Nat} {a1 : Int32} (hn0 : I 0 = nI n) (hn4 : n < 5) (k : px_W G D 0 0 m_Mo_layOrder 22 [some (.ref X.length), some (.int a1), some (.int (nI (sp_fac n))), none, none, none, none, none] [] (HM X I A L E) Q) : ∀ (q k0 : Nat) (w : Int32), k0 + q = n + 1 → 2 ≤ k0 → w = nI (sp_fac (k0 - 1)) → px_W G D 0 0 m_Mo_layOrder 4 [some (.ref X.length), some (.int a1), some (.int w), some (.int (nI k0)), none, none, none, none] [] (HM X I A L E) Q := by
  intro q
  induction q with
  | zero =>
    intro k0 w hk h2 hw
    subst hw
    have hk2 : k0 - 1 = n := by omega
    refine wp_iload_n d_Mo_layOrder_4 rfl rfl ?_
    refine wp_aload_n d_Mo_layOrder_5 rfl rfl rfl ?_
    refine gM_0 rfl d_Mo_layOrder_6 ?_
    rw [hn0]
    refine wp_icmp_gt (t := 22) d_Mo_layOrder_9 (by decide) (fun c_9 => ?_) (fun c_9 => absurd (nI_lt (by omega) (by omega)) c_9)
    refine wp_less (ls' := [some (.ref X.length), some (.int a1), some (.int _), none, none, none, none, none]) ⟨rfl, rfl, rfl, trivial⟩ ?_
    rw [hk2]
    exact k
  | succ q ih =>
    intro k0 w hk h2 hw
    subst hw
    have hf : sp_fac (k0 + 1 - 1) = k0 * sp_fac (k0 - 1) := by
      obtain ⟨j, rfl⟩ : ∃ j, k0 = j + 1 := ⟨k0 - 1, by omega⟩
      rfl
    refine wp_iload_n d_Mo_layOrder_4 rfl rfl ?_
    refine wp_aload_n d_Mo_layOrder_5 rfl rfl rfl ?_
    refine gM_0 rfl d_Mo_layOrder_6 ?_
    rw [hn0]
    refine wp_icmp_gt (t := 22) d_Mo_layOrder_9 (by decide) (fun c_9 => absurd c_9 (nI_nlt (by omega) (by omega))) (fun c_9 => ?_)
    refine wp_iload_n d_Mo_layOrder_12 rfl rfl ?_
    refine wp_iload_n d_Mo_layOrder_13 rfl rfl ?_
    refine wp_imul d_Mo_layOrder_14 ?_
    refine wp_istore_n (ls' := [_, _, _, _, _, _, _, _]) d_Mo_layOrder_15 rfl (by decide) rfl ?_
    refine wp_iinc (v := _ + 1) (ls' := [_, _, _, _, _, _, _, _]) d_Mo_layOrder_16 (by decide) rfl rfl rfl ?_
    refine wp_goto (t := 4) d_Mo_layOrder_19 (by decide) ?_
    rw [pk_mul, Nat.mul_comm, ← hf, show nI k0 + 1 = nI (k0 + 1) from nI_1 k0]
    exact ih (k0 + 1) _ (by omega) (by omega) rfl
set_option maxRecDepth 4000 in
theorem c_Mo_layOrder {n k0 : Nat} (hD : 1 ≤ D) (hn0 : I 0 = nI n) (hn4 : n < 5) (hk : k0 < 100) (kf : sp_fac n ≤ k0 → Q (some (.int 0)) (HM X I A L E)) (kt : k0 < sp_fac n → Q (some (.int 1)) (HM X I (va_up A 10 (sp_put (A 10) 0 (sp_pm n k0))) L E)) : px_W G D 0 0 m_Mo_layOrder 0 (px_ent 8 [.ref X.length, .int (nI k0)]) [] (HM X I A L E) Q := by
  show px_W _ _ _ _ _ _ [some (.ref X.length), some (.int (nI k0)), none, none, none, none, none, none] [] _ _
  refine wp_iconst (v := 1) d_Mo_layOrder_0 rfl ?_
  refine wp_istore_n (ls' := [_, _, _, _, _, _, _, _]) d_Mo_layOrder_1 rfl (by decide) rfl ?_
  refine wp_iconst (v := 2) d_Mo_layOrder_2 rfl ?_
  refine wp_istore_n (ls' := [_, _, _, _, _, _, _, _]) d_Mo_layOrder_3 rfl (by decide) rfl ?_
  have hfb := sp_fac_24 n hn4
  have h22 : px_W G D 0 0 m_Mo_layOrder 22 [some (.ref X.length), some (.int (nI k0)), some (.int (nI (sp_fac n))), none, none, none, none, none] [] (HM X I A L E) Q := by
    refine wp_iload_n d_Mo_layOrder_22 rfl rfl ?_
    refine wp_iload_n d_Mo_layOrder_23 rfl rfl ?_
    refine wp_icmp_lt (t := 29) d_Mo_layOrder_24 (by decide) (fun c_24 => ?_) (fun c_24 => ?_)
    · skip
      refine wp_iconst (v := 1) d_Mo_layOrder_29 rfl ?_
      refine wp_aload_n d_Mo_layOrder_30 rfl rfl rfl ?_
      refine gM_0 rfl d_Mo_layOrder_31 ?_
      refine wp_ishl d_Mo_layOrder_34 ?_
      refine wp_iconst (v := 1) d_Mo_layOrder_35 rfl ?_
      refine wp_isub d_Mo_layOrder_36 ?_
      refine wp_istore_n (ls' := [_, _, _, _, _, _, _, _]) d_Mo_layOrder_37 rfl (by decide) rfl ?_
      refine wp_iload_n d_Mo_layOrder_38 rfl rfl ?_
      refine wp_istore (ls' := [_, _, _, _, _, _, _, _]) d_Mo_layOrder_39 (by decide) rfl ?_
      refine wp_iconst (v := 0) d_Mo_layOrder_41 rfl ?_
      refine wp_istore (ls' := [_, _, _, _, _, _, _, _]) d_Mo_layOrder_42 (by decide) rfl ?_
      have hkl : k0 < sp_fac n := (nI_ltI (by omega) (by omega)).mp (by first | exact c_24 | exact Int32.not_le.mp c_24)
      rw [hn0]
      refine wp_less (ls' := [some (.ref X.length), some (.int _), some (.int _), some (.int _), some (.int _), some (.int _), none, none]) ⟨rfl, rfl, rfl, rfl, rfl, rfl, trivial⟩ ?_
      rw [show HM X I A L E = HM X I (va_up A 10 (A 10)) L E from by rw [va_us]]
      exact l_Mo_layOrder_44 hD hn0 (by omega) n 0 _ _ _ _ _ (by omega) (sp_row_e hn4 hkl) (kt hkl)
    · skip
      refine wp_iconst (v := 0) d_Mo_layOrder_27 rfl ?_
      refine wp_ireturn d_Mo_layOrder_28 rfl rfl ?_
      exact kf (Nat.not_lt.mp (fun h => absurd (nI_lt h (by omega)) c_24))
  by_cases hz : n = 0
  · subst hz
    refine wp_iload_n d_Mo_layOrder_4 rfl rfl ?_
    refine wp_aload_n d_Mo_layOrder_5 rfl rfl rfl ?_
    refine gM_0 rfl d_Mo_layOrder_6 ?_
    rw [hn0]
    refine wp_icmp_gt (t := 22) d_Mo_layOrder_9 (by decide) (fun c_9 => ?_) (fun c_9 => absurd (by decide) c_9)
    refine wp_less (ls' := [some (.ref X.length), some (.int _), some (.int _), none, none, none, none, none]) ⟨rfl, rfl, rfl, trivial⟩ ?_
    exact h22
  · exact l_Mo_layOrder_4 hn0 hn4 h22 (n - 1) 2 1 (by omega) (by omega) (by decide)
end MOG
