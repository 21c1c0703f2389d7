theorem mo_w_chain {SI SA : List Nat} {I I' : Nat → Int32} {A A' : Nat → Nat → Int32} {n n' b : Nat} {ln ln' : Nat → Nat} {cl : List sp_Cl} (h : mo_w I A n ln b cl) (hm : ms SI SA I I' A A') (h0 : 12 ∉ SI ∧ 32 ∉ SI) (h1 : 6 ∉ SA ∧ 17 ∉ SA ∧ 18 ∉ SA ∧ 19 ∉ SA ∧ 20 ∉ SA ∧ 21 ∉ SA ∧ 22 ∉ SA) (hn : n' ≤ 6) (e1 : I' 1 = nI n') (hl : ∀ p, p < n' → ln' p < 6 ∧ A' 10 p = nI (ln' p)) : mo_w I' A' n' ln' b cl := by
  obtain ⟨a1, a2, a3, a4, a5, a6⟩ := h
  refine ⟨hn, e1, hl, ?_, a5.ms hm h0.1 h1.2, ?_⟩
  · rw [hm.2 6 h1.1]; exact a4
  · rw [hm.1 32 h0.2]; exact a6
/-- two places exchanged -/
def sp_sw {α : Type} (f : Nat → α) (a b : Nat) : Nat → α := fun j => if j = b then f a else if j = a then f b else f j
theorem sp_sw_sw {α : Type} {f : Nat → α} {a b : Nat} : sp_sw (sp_sw f a b) a b = f := by
  funext j
  unfold sp_sw
  by_cases h : j = b
  · subst h
    rw [if_pos rfl]
    by_cases h2 : a = j
    · rw [if_pos h2, h2]
    · rw [if_neg h2, if_pos rfl]
  · rw [if_neg h]
    by_cases h2 : j = a
    · subst h2; rw [if_pos rfl, if_pos rfl]
    · rw [if_neg h2, if_neg h, if_neg h2]
/-- the place a is left out: of i places the ones behind it come one down -/
def sp_sh {α : Type} (f : Nat → α) (a i : Nat) : Nat → α := fun j => if a ≤ j ∧ j < i then f (j + 1) else f j
theorem sp_sh_s {f : Nat → Int32} {a i : Nat} (h : a ≤ i) : upd (sp_sh f a i) i (f (i + 1)) = sp_sh f a (i + 1) := by
  funext j
  show (if j = i then f (i + 1) else if a ≤ j ∧ j < i then f (j + 1) else f j) = if a ≤ j ∧ j < i + 1 then f (j + 1) else f j
  by_cases e : j = i
  · rw [if_pos e, if_pos (by omega), e]
  · rw [if_neg e]
    by_cases e2 : a ≤ j ∧ j < i
    · rw [if_pos e2, if_pos (by omega)]
    · rw [if_neg e2, if_neg (by omega)]
theorem sp_sh_0 {α : Type} {f : Nat → α} {a : Nat} : sp_sh f a a = f := by funext j; exact if_neg (by omega)
/-- CHANGE: most so far, which places -/
def sp_ch1 (g : Nat → Nat → Int32) (x : Nat) : Nat → Nat → Int32 × Int32 → Int32 × Int32
  | 0, _, z => z
  | q + 1, y, z => if g x y ≤ z.1 then sp_ch1 g x q (y + 1) z else sp_ch1 g x q (y + 1) (g x y, nI (10 * x + y))
def sp_ch (g : Nat → Nat → Int32) (n : Nat) : Nat → Nat → Int32 × Int32 → Int32 × Int32
  | 0, _, z => z
  | q + 1, x, z => sp_ch g n q (x + 1) (sp_ch1 g x (n - (x + 1)) (x + 1) z)
theorem ms.sw2 {SI SA : List Nat} {I1 I2 : Nat → Int32} {A1 A2 : Nat → Nat → Int32} {x y : Nat} (hm : ms SI SA I1 I2 (va_up A1 10 (sp_sw (A1 10) x y)) A2) (h10 : 10 ∉ SA) : ms SI SA I1 I2 A1 (va_up A2 10 (sp_sw (A2 10) x y)) := by
  refine ⟨hm.1, fun k hk => ?_⟩
  have e10 : A2 10 = sp_sw (A1 10) x y := hm.2 10 h10
  show (if k = 10 then sp_sw (A2 10) x y else A2 k) = A1 k
  by_cases h : k = 10
  · rw [if_pos h, h, e10]
    exact sp_sw_sw
  · rw [if_neg h, hm.2 k hk]
    exact if_neg h
section MOF
variable {G : px_G} {D : Nat} {X E : px_H} {I : Nat → Int32} {A : Nat → Nat → Int32} {L : Nat → Nat → Int64} {Q : Option Value → px_H → Prop}
set_option maxRecDepth 4000 in
theorem l_Mo_keepChain_2 (k : Q none (HM X I (va_up A 40 (sp_cp (A 10) (A 40) 6)) L E)) : ∀ (q i : Nat), i + q = 6 → px_W G D 0 0 m_Mo_keepChain 2 [some (.ref X.length), some (.int (nI i))] [] (HM X I (va_up A 40 (sp_cp (A 10) (A 40) i)) L E) Q := by
  intro q
  induction q with
  | zero =>
    intro i hi
    have hi6 : i = 6 := by omega
    subst hi6
    refine wp_iload_n d_Mo_keepChain_2 rfl rfl ?_
    refine wp_bipush (v := 6) d_Mo_keepChain_3 (by decide) ?_
    refine wp_icmp_ge (t := 26) d_Mo_keepChain_5 (by decide) (fun c_5 => ?_) (fun c_5 => absurd (by decide) c_5)
    refine wp_return d_Mo_keepChain_26 rfl ?_
    exact k
  | succ q ih =>
    intro i hi
    have eci : (nI i).toNatClampNeg = i := nI_clamp (by omega)
    refine wp_iload_n d_Mo_keepChain_2 rfl rfl ?_
    refine wp_bipush (v := 6) d_Mo_keepChain_3 (by decide) ?_
    refine wp_icmp_ge (t := 26) d_Mo_keepChain_5 (by decide) (fun c_5 => absurd c_5 (nI_ge (b := 6) (by omega) (by decide))) (fun c_5 => ?_)
    refine wp_aload_n d_Mo_keepChain_8 rfl rfl rfl ?_
    refine gM_40 rfl d_Mo_keepChain_9 ?_
    refine wp_iload_n d_Mo_keepChain_12 rfl rfl ?_
    refine wp_aload_n d_Mo_keepChain_13 rfl rfl rfl ?_
    refine gM_10 rfl d_Mo_keepChain_14 ?_
    refine wp_iload_n d_Mo_keepChain_17 rfl rfl ?_
    refine lM_10 d_Mo_keepChain_18 (vp_in_nI (by omega) (by decide)) ?_
    refine sM_40 d_Mo_keepChain_19 (vp_in_nI (by omega) (by decide)) ?_
    refine wp_iinc (v := _ + 1) (ls' := [_, _]) d_Mo_keepChain_20 (by decide) rfl rfl rfl ?_
    refine wp_goto (t := 2) d_Mo_keepChain_23 (by decide) ?_
    rw [eci, show nI i + 1 = nI (i + 1) from nI_1 i, bx_uu]
    refine (show px_W G D 0 0 m_Mo_keepChain 2 [some (.ref X.length), some (.int (nI (i + 1)))] [] (HM X I (va_up A 40 (upd (sp_cp (A 10) (A 40) i) i (A 10 i))) L E) Q from ?_)
    rw [sp_cp_s]
    exact ih (i + 1) (by omega)
set_option maxRecDepth 4000 in
theorem c_Mo_keepChain  (hD : 0 ≤ D) (k : Q none (HM X I (va_up A 40 (sp_cp (A 10) (A 40) 6)) L E)) : px_W G D 0 0 m_Mo_keepChain 0 (px_ent 2 [.ref X.length]) [] (HM X I A L E) Q := by
  show px_W _ _ _ _ _ _ [some (.ref X.length), none] [] _ _
  refine wp_iconst (v := 0) d_Mo_keepChain_0 rfl ?_
  refine wp_istore_n (ls' := [_, _]) d_Mo_keepChain_1 rfl (by decide) rfl ?_
  rw [show HM X I A L E = HM X I (va_up A 40 (sp_cp (A 10) (A 40) 0)) L E from by rw [sp_cp_0, va_us]]
  exact l_Mo_keepChain_2 k 6 0 (by omega)
set_option maxRecDepth 4000 in
theorem l_Mo_putChain_2 (k : Q none (HM X I (va_up A 10 (sp_cp (A 40) (A 10) 6)) L E)) : ∀ (q i : Nat), i + q = 6 → px_W G D 0 0 m_Mo_putChain 2 [some (.ref X.length), some (.int (nI i))] [] (HM X I (va_up A 10 (sp_cp (A 40) (A 10) i)) L E) Q := by
  intro q
  induction q with
  | zero =>
    intro i hi
    have hi6 : i = 6 := by omega
    subst hi6
    refine wp_iload_n d_Mo_putChain_2 rfl rfl ?_
    refine wp_bipush (v := 6) d_Mo_putChain_3 (by decide) ?_
    refine wp_icmp_ge (t := 26) d_Mo_putChain_5 (by decide) (fun c_5 => ?_) (fun c_5 => absurd (by decide) c_5)
    refine wp_return d_Mo_putChain_26 rfl ?_
    exact k
  | succ q ih =>
    intro i hi
    have eci : (nI i).toNatClampNeg = i := nI_clamp (by omega)
    refine wp_iload_n d_Mo_putChain_2 rfl rfl ?_
    refine wp_bipush (v := 6) d_Mo_putChain_3 (by decide) ?_
    refine wp_icmp_ge (t := 26) d_Mo_putChain_5 (by decide) (fun c_5 => absurd c_5 (nI_ge (b := 6) (by omega) (by decide))) (fun c_5 => ?_)
    refine wp_aload_n d_Mo_putChain_8 rfl rfl rfl ?_
    refine gM_10 rfl d_Mo_putChain_9 ?_
    refine wp_iload_n d_Mo_putChain_12 rfl rfl ?_
    refine wp_aload_n d_Mo_putChain_13 rfl rfl rfl ?_
    refine gM_40 rfl d_Mo_putChain_14 ?_
    refine wp_iload_n d_Mo_putChain_17 rfl rfl ?_
    refine lM_40 d_Mo_putChain_18 (vp_in_nI (by omega) (by decide)) ?_
    refine sM_10 d_Mo_putChain_19 (vp_in_nI (by omega) (by decide)) ?_
    refine wp_iinc (v := _ + 1) (ls' := [_, _]) d_Mo_putChain_20 (by decide) rfl rfl rfl ?_
    refine wp_goto (t := 2) d_Mo_putChain_23 (by decide) ?_
    rw [eci, show nI i + 1 = nI (i + 1) from nI_1 i, bx_uu]
    refine (show px_W G D 0 0 m_Mo_putChain 2 [some (.ref X.length), some (.int (nI (i + 1)))] [] (HM X I (va_up A 10 (upd (sp_cp (A 40) (A 10) i) i (A 40 i))) L E) Q from ?_)
    rw [sp_cp_s]
    exact ih (i + 1) (by omega)
set_option maxRecDepth 4000 in
theorem c_Mo_putChain  (hD : 0 ≤ D) (k : Q none (HM X I (va_up A 10 (sp_cp (A 40) (A 10) 6)) L E)) : px_W G D 0 0 m_Mo_putChain 0 (px_ent 2 [.ref X.length]) [] (HM X I A L E) Q := by
  show px_W _ _ _ _ _ _ [some (.ref X.length), none] [] _ _
  refine wp_iconst (v := 0) d_Mo_putChain_0 rfl ?_
  refine wp_istore_n (ls' := [_, _]) d_Mo_putChain_1 rfl (by decide) rfl ?_
  rw [show HM X I A L E = HM X I (va_up A 10 (sp_cp (A 40) (A 10) 0)) L E from by rw [sp_cp_0, va_us]]
  exact l_Mo_putChain_2 k 6 0 (by omega)
set_option maxRecDepth 4000 in
theorem c_Mo_swaps {a b : Nat} (hD : 0 ≤ D) (ha : a < 6) (hb : b < 6) (k : Q none (HM X I (va_up A 10 (sp_sw (A 10) a b)) L E)) : px_W G D 0 0 m_Mo_swaps 0 (px_ent 4 [.ref X.length, .int (nI a), .int (nI b)]) [] (HM X I A L E) Q := by
  show px_W _ _ _ _ _ _ [some (.ref X.length), some (.int (nI a)), some (.int (nI b)), none] [] _ _
  refine wp_aload_n d_Mo_swaps_0 rfl rfl rfl ?_
  refine gM_10 rfl d_Mo_swaps_1 ?_
  refine wp_iload_n d_Mo_swaps_4 rfl rfl ?_
  refine lM_10 d_Mo_swaps_5 (vp_in_nI ha (by decide)) ?_
  refine wp_istore_n (ls' := [_, _, _, _]) d_Mo_swaps_6 rfl (by decide) rfl ?_
  refine wp_aload_n d_Mo_swaps_7 rfl rfl rfl ?_
  refine gM_10 rfl d_Mo_swaps_8 ?_
  refine wp_iload_n d_Mo_swaps_11 rfl rfl ?_
  refine wp_aload_n d_Mo_swaps_12 rfl rfl rfl ?_
  refine gM_10 rfl d_Mo_swaps_13 ?_
  refine wp_iload_n d_Mo_swaps_16 rfl rfl ?_
  refine lM_10 d_Mo_swaps_17 (vp_in_nI hb (by decide)) ?_
  refine sM_10 d_Mo_swaps_18 (vp_in_nI ha (by decide)) ?_
  refine wp_aload_n d_Mo_swaps_19 rfl rfl rfl ?_
  refine gM_10 rfl d_Mo_swaps_20 ?_
  refine wp_iload_n d_Mo_swaps_23 rfl rfl ?_
  refine wp_iload_n d_Mo_swaps_24 rfl rfl ?_
  refine sM_10 d_Mo_swaps_25 (vp_in_nI hb (by decide)) ?_
  refine wp_return d_Mo_swaps_26 rfl ?_
  rw [nI_clamp (n := a) (by omega), nI_clamp (n := b) (by omega), bx_uu]
  exact k
set_option maxRecDepth 4000 in
theorem l_Mo_change_51 {n b : Nat} {ln : Nat → Nat} {cl : List sp_Cl} {bt : Int32} {nn x : Nat} (hD : 8 ≤ D) (hw : mo_w I A n ln b cl) (hh : mo_h A) (e32 : I 32 = 9999) (hn0 : I 0 = nI n) (hn30 : nn ≤ 30) : ∀ (q y : Nat) (z : Int32 × Int32) (I1 : Nat → Int32) (A1 : Nat → Nat → Int32), y + q = n → x < y → ms [29, 30, 31, 33, 36, 37, 38] [28, 34, 35, 39] I I1 A A1 → (∀ (I1 : Nat → Int32) (A1 : Nat → Nat → Int32) (z' : Int32 × Int32) (w : Option Value), z' = sp_ch1 (fun x y => (sp_many (A 5, A 6, A 9, sp_sw ln x y, n, cl) (I 2) (A 7) (A 8) (nn) (bt) (0) (0))) x q y z → ms [29, 30, 31, 33, 36, 37, 38] [28, 34, 35, 39] I I1 A A1 → px_W G D 0 0 m_Mo_change 36 [some (.ref X.length), some (.int (nI nn)), some (.int bt), some (.int z'.1), some (.int z'.2), some (.int (nI (x + 1))), none, none] [] (HM X I1 A1 L E) Q) → px_W G D 0 0 m_Mo_change 51 [some (.ref X.length), some (.int (nI nn)), some (.int bt), some (.int z.1), some (.int z.2), some (.int (nI x)), some (.int (nI y)), none] [] (HM X I1 A1 L E) Q := by
  have hn6 : n ≤ 6 := hw.1
  intro q
  induction q with
  | zero =>
    intro y z I1 A1 hy hxy hm hq
    have i0 : I1 0 = nI n := (hm.1 0 (by decide)).trans hn0
    refine wp_iload d_Mo_change_51 rfl ?_
    refine wp_aload_n d_Mo_change_53 rfl rfl rfl ?_
    refine gM_0 rfl d_Mo_change_54 ?_
    rw [i0]
    refine wp_icmp_ge (t := 112) d_Mo_change_57 (by decide) (fun c_57 => ?_) (fun c_57 => absurd (nI_le (by omega) (by omega)) c_57)
    refine wp_iinc (v := _ + 1) (ls' := [_, _, _, _, _, _, _, _]) d_Mo_change_112 (by decide) rfl rfl rfl ?_
    refine wp_goto (t := 36) d_Mo_change_115 (by decide) ?_
    rw [show nI x + 1 = nI (x + 1) from nI_1 x]
    refine wp_less (ls' := [some (.ref X.length), some (.int _), some (.int _), some (.int _), some (.int _), some (.int _), none, none]) ⟨rfl, rfl, rfl, rfl, rfl, rfl, trivial⟩ ?_
    exact hq I1 A1 z none rfl hm
  | succ q ih =>
    intro y z I1 A1 hy hxy hm hq
    have hw1 : mo_w I1 A1 n ln b cl := hw.ms hm (by decide) (by decide)
    have hh1 : mo_h A1 := hh.ms hm (by decide)
    have e1 : I1 32 = 9999 := (hm.1 32 (by decide)).trans e32
    have a5 : A1 5 = A 5 := hm.2 5 (by decide)
    have a6 : A1 6 = A 6 := hm.2 6 (by decide)
    have a7 : A1 7 = A 7 := hm.2 7 (by decide)
    have a8 : A1 8 = A 8 := hm.2 8 (by decide)
    have a9 : A1 9 = A 9 := hm.2 9 (by decide)
    have i2 : I1 2 = I 2 := hm.1 2 (by decide)
    have i0 : I1 0 = nI n := (hm.1 0 (by decide)).trans hn0
    have hw2 : mo_w I1 (va_up A1 10 (sp_sw (A1 10) x y)) n (sp_sw ln x y) b cl := mo_w_chain hw1 (ms.rf (SI := []) |>.a (SA := [10]) 10 (by decide) _) (by decide) (by decide) hw1.1 hw1.2.1 (by
      intro p hp
      show (if p = y then ln x else if p = x then ln y else ln p) < 6 ∧ (if p = y then A1 10 x else if p = x then A1 10 y else A1 10 p) = nI (if p = y then ln x else if p = x then ln y else ln p)
      split
      · exact hw1.2.2.1 x (by omega)
      · split
        · exact hw1.2.2.1 y (by omega)
        · exact hw1.2.2.1 p hp)
    have hh2 : mo_h (va_up A1 10 (sp_sw (A1 10) x y)) := hh1
    have eg : sp_many (va_up A1 10 (sp_sw (A1 10) x y) 5, va_up A1 10 (sp_sw (A1 10) x y) 6, va_up A1 10 (sp_sw (A1 10) x y) 9, sp_sw ln x y, n, cl) (I1 2) (va_up A1 10 (sp_sw (A1 10) x y) 7) (va_up A1 10 (sp_sw (A1 10) x y) 8) nn bt 0 0 = (sp_many (A 5, A 6, A 9, sp_sw ln x y, n, cl) (I 2) (A 7) (A 8) (nn) (bt) (0) (0)) := by
      show sp_many (A1 5, A1 6, A1 9, sp_sw ln x y, n, cl) (I1 2) (A1 7) (A1 8) nn bt 0 0 = _
      rw [a5, a6, a7, a8, a9, i2]
    have hst : sp_ch1 (fun x y => (sp_many (A 5, A 6, A 9, sp_sw ln x y, n, cl) (I 2) (A 7) (A 8) (nn) (bt) (0) (0))) x (q + 1) y z = if (sp_many (A 5, A 6, A 9, sp_sw ln x y, n, cl) (I 2) (A 7) (A 8) (nn) (bt) (0) (0)) ≤ z.1 then sp_ch1 (fun x y => (sp_many (A 5, A 6, A 9, sp_sw ln x y, n, cl) (I 2) (A 7) (A 8) (nn) (bt) (0) (0))) x q (y + 1) z else sp_ch1 (fun x y => (sp_many (A 5, A 6, A 9, sp_sw ln x y, n, cl) (I 2) (A 7) (A 8) (nn) (bt) (0) (0))) x q (y + 1) ((sp_many (A 5, A 6, A 9, sp_sw ln x y, n, cl) (I 2) (A 7) (A 8) (nn) (bt) (0) (0)), nI (10 * x + y)) := rfl
    rw [hst] at hq
    refine wp_iload d_Mo_change_51 rfl ?_
    refine wp_aload_n d_Mo_change_53 rfl rfl rfl ?_
    refine gM_0 rfl d_Mo_change_54 ?_
    rw [i0]
    refine wp_icmp_ge (t := 112) d_Mo_change_57 (by decide) (fun c_57 => absurd c_57 (nI_ge (by omega) (by omega))) (fun c_57 => ?_)
    refine wp_aload_n d_Mo_change_60 rfl rfl rfl ?_
    refine wp_iload d_Mo_change_61 rfl ?_
    refine wp_iload d_Mo_change_63 rfl ?_
    refine wp_callV (r := (R_12, T_12, 70)) (M' := m_Mo_swaps) (as := [_, _]) (D' := D - 1) (C1 := 0) (C2 := 0) (S1 := 0) (S2 := 0) d_Mo_change_65 rfl w_1465 w_1467 w_59 hm_0 k_Mo_swaps (Nat.le_of_ble_eq_true rfl) rfl (Nat.le_of_ble_eq_true rfl) (by omega) rfl rfl ?_
    refine c_Mo_swaps (by omega) (a := x) (b := y) (by omega) (by omega) ?_
    refine wp_aload_n d_Mo_change_68 rfl rfl rfl ?_
    refine wp_iload_n d_Mo_change_69 rfl rfl ?_
    refine wp_iload_n d_Mo_change_70 rfl rfl ?_
    refine wp_callV (r := (R_12, T_12, 70)) (M' := m_Mo_upBy) (as := [_, _]) (D' := D - 1) (C1 := 0) (C2 := 0) (S1 := 0) (S2 := 0) d_Mo_change_71 rfl w_1407 w_1409 w_53 hm_0 k_Mo_upBy (Nat.le_of_ble_eq_true rfl) rfl (Nat.le_of_ble_eq_true rfl) (by omega) rfl rfl ?_
    refine c_Mo_upBy (by omega) (nn := nn) hw2 hh2 e1 hn30 (fun I2 A2 hm2 g37 g38 g39 => ?_)
    rw [eg]
    refine wp_istore (ls' := [_, _, _, _, _, _, _, _]) d_Mo_change_74 (by decide) rfl ?_
    refine wp_aload_n d_Mo_change_76 rfl rfl rfl ?_
    refine wp_iload d_Mo_change_77 rfl ?_
    refine wp_iload d_Mo_change_79 rfl ?_
    refine wp_callV (r := (R_12, T_12, 70)) (M' := m_Mo_swaps) (as := [_, _]) (D' := D - 1) (C1 := 0) (C2 := 0) (S1 := 0) (S2 := 0) d_Mo_change_81 rfl w_1465 w_1467 w_59 hm_0 k_Mo_swaps (Nat.le_of_ble_eq_true rfl) rfl (Nat.le_of_ble_eq_true rfl) (by omega) rfl rfl ?_
    refine c_Mo_swaps (by omega) (a := x) (b := y) (by omega) (by omega) ?_
    refine wp_iload d_Mo_change_84 rfl ?_
    refine wp_iload_n d_Mo_change_86 rfl rfl ?_
    refine wp_icmp_gt (t := 93) d_Mo_change_87 (by decide) (fun c_87 => ?_) (fun c_87 => ?_)
    · skip
      refine wp_bipush (v := 10) d_Mo_change_93 (by decide) ?_
      refine wp_iload d_Mo_change_95 rfl ?_
      refine wp_imul d_Mo_change_97 ?_
      refine wp_iload d_Mo_change_98 rfl ?_
      refine wp_iadd d_Mo_change_100 ?_
      rw [show (10 : Int32) * nI x = nI (10 * x) from pk_mul 10 x, nI_add]
      refine wp_istore (ls' := [_, _, _, _, _, _, _, _]) d_Mo_change_101 (by decide) rfl ?_
      refine wp_iload d_Mo_change_103 rfl ?_
      refine wp_istore_n (ls' := [_, _, _, _, _, _, _, _]) d_Mo_change_105 rfl (by decide) rfl ?_
      refine wp_iinc (v := _ + 1) (ls' := [_, _, _, _, _, _, _, _]) d_Mo_change_106 (by decide) rfl rfl rfl ?_
      refine wp_goto (t := 51) d_Mo_change_109 (by decide) ?_
      refine wp_less (ls' := [some (.ref X.length), some (.int _), some (.int _), some (.int _), some (.int _), some (.int _), some (.int _), none]) ⟨rfl, rfl, rfl, rfl, rfl, rfl, rfl, trivial⟩ ?_
      rw [show nI y + 1 = nI (y + 1) from nI_1 y]
      first
        | (have hc : (sp_many (A 5, A 6, A 9, sp_sw ln x y, n, cl) (I 2) (A 7) (A 8) (nn) (bt) (0) (0)) ≤ z.1 := Int32.not_lt.mp c_87
           rw [if_pos hc] at hq; exact ih (y + 1) z _ _ (by omega) (by omega) (hm.tr (hm2.sw2 (by decide))) hq)
        | (have hc : ¬ (sp_many (A 5, A 6, A 9, sp_sw ln x y, n, cl) (I 2) (A 7) (A 8) (nn) (bt) (0) (0)) ≤ z.1 := Int32.not_le.mpr c_87
           rw [if_neg hc] at hq; exact ih (y + 1) (_, _) _ _ (by omega) (by omega) (hm.tr (hm2.sw2 (by decide))) hq)
    · skip
      refine wp_goto (t := 106) d_Mo_change_90 (by decide) ?_
      refine wp_iinc (v := _ + 1) (ls' := [_, _, _, _, _, _, _, _]) d_Mo_change_106 (by decide) rfl rfl rfl ?_
      refine wp_goto (t := 51) d_Mo_change_109 (by decide) ?_
      refine wp_less (ls' := [some (.ref X.length), some (.int _), some (.int _), some (.int _), some (.int _), some (.int _), some (.int _), none]) ⟨rfl, rfl, rfl, rfl, rfl, rfl, rfl, trivial⟩ ?_
      rw [show nI y + 1 = nI (y + 1) from nI_1 y]
      first
        | (have hc : (sp_many (A 5, A 6, A 9, sp_sw ln x y, n, cl) (I 2) (A 7) (A 8) (nn) (bt) (0) (0)) ≤ z.1 := Int32.not_lt.mp c_87
           rw [if_pos hc] at hq; exact ih (y + 1) z _ _ (by omega) (by omega) (hm.tr (hm2.sw2 (by decide))) hq)
        | (have hc : ¬ (sp_many (A 5, A 6, A 9, sp_sw ln x y, n, cl) (I 2) (A 7) (A 8) (nn) (bt) (0) (0)) ≤ z.1 := Int32.not_le.mpr c_87
           rw [if_neg hc] at hq; exact ih (y + 1) (_, _) _ _ (by omega) (by omega) (hm.tr (hm2.sw2 (by decide))) hq)
set_option maxRecDepth 4000 in
theorem l_Mo_change_36 {n b : Nat} {ln : Nat → Nat} {cl : List sp_Cl} {bt : Int32} {nn : Nat} (hD : 8 ≤ D) (hw : mo_w I A n ln b cl) (hh : mo_h A) (e32 : I 32 = 9999) (hn0 : I 0 = nI n) (hn30 : nn ≤ 30) : ∀ (q x : Nat) (z : Int32 × Int32) (I1 : Nat → Int32) (A1 : Nat → Nat → Int32), x + q = n → ms [29, 30, 31, 33, 36, 37, 38] [28, 34, 35, 39] I I1 A A1 → (∀ (I' : Nat → Int32) (A' : Nat → Nat → Int32), ms [29, 30, 31, 33, 36, 37, 38] [28, 34, 35, 39] I I' A A' → Q (some (.int (sp_ch (fun x y => (sp_many (A 5, A 6, A 9, sp_sw ln x y, n, cl) (I 2) (A 7) (A 8) (nn) (bt) (0) (0))) n q x z).2)) (HM X I' A' L E)) → px_W G D 0 0 m_Mo_change 36 [some (.ref X.length), some (.int (nI nn)), some (.int bt), some (.int z.1), some (.int z.2), some (.int (nI x)), none, none] [] (HM X I1 A1 L E) Q := by
  have hn6 : n ≤ 6 := hw.1
  intro q
  induction q with
  | zero =>
    intro x z I1 A1 hx hm hq
    have i0 : I1 0 = nI n := (hm.1 0 (by decide)).trans hn0
    refine wp_iload d_Mo_change_36 rfl ?_
    refine wp_aload_n d_Mo_change_38 rfl rfl rfl ?_
    refine gM_0 rfl d_Mo_change_39 ?_
    rw [i0]
    refine wp_icmp_ge (t := 118) d_Mo_change_42 (by decide) (fun c_42 => ?_) (fun c_42 => absurd (nI_le (by omega) (by omega)) c_42)
    refine wp_iload d_Mo_change_118 rfl ?_
    refine wp_ireturn d_Mo_change_120 rfl rfl ?_
    exact hq _ _ hm
  | succ q ih =>
    intro x z I1 A1 hx hm hq
    have i0 : I1 0 = nI n := (hm.1 0 (by decide)).trans hn0
    refine wp_iload d_Mo_change_36 rfl ?_
    refine wp_aload_n d_Mo_change_38 rfl rfl rfl ?_
    refine gM_0 rfl d_Mo_change_39 ?_
    rw [i0]
    refine wp_icmp_ge (t := 118) d_Mo_change_42 (by decide) (fun c_42 => absurd c_42 (nI_ge (by omega) (by omega))) (fun c_42 => ?_)
    refine wp_iload d_Mo_change_45 rfl ?_
    refine wp_iconst (v := 1) d_Mo_change_47 rfl ?_
    refine wp_iadd d_Mo_change_48 ?_
    refine wp_istore (ls' := [_, _, _, _, _, _, _, _]) d_Mo_change_49 (by decide) rfl ?_
    rw [show nI x + 1 = nI (x + 1) from nI_1 x]
    refine l_Mo_change_51 hD hw hh e32 hn0 hn30 (n - (x + 1)) (x + 1) z I1 A1 (by omega) (by omega) hm (fun I2 A2 z' w hz hm2 => ?_)
    rw [hz]
    exact ih (x + 1) _ _ _ (by omega) hm2 hq
set_option maxRecDepth 4000 in
theorem c_Mo_change {n b : Nat} {ln : Nat → Nat} {cl : List sp_Cl} {x bt : Int32} (hD : 8 ≤ D) (hw : mo_w I A n ln b cl) (hh : mo_h A) (e32 : I 32 = 9999) (hn0 : I 0 = nI n) (kb : ¬ ((1 ≤ x ∧ x ≤ 30) ∧ (1 ≤ bt ∧ bt ≤ 99)) → Q (some (.int (-2))) (HM X I A L E)) (kk : ((1 ≤ x ∧ x ≤ 30) ∧ (1 ≤ bt ∧ bt ≤ 99)) → ∀ nn, nn ≤ 30 → x = nI nn → ∀ (I' : Nat → Int32) (A' : Nat → Nat → Int32), ms [29, 30, 31, 33, 36, 37, 38] [28, 34, 35, 39] I I' A A' → Q (some (.int (sp_ch (fun x y => (sp_many (A 5, A 6, A 9, sp_sw ln x y, n, cl) (I 2) (A 7) (A 8) (nn) (bt) (0) (0))) n n 0 ((sp_many (A 5, A 6, A 9, ln, n, cl) (I 2) (A 7) (A 8) (nn) (bt) (0) (0)), -5)).2)) (HM X I' A' L E)) : px_W G D 0 0 m_Mo_change 0 (px_ent 8 [.ref X.length, .int x, .int bt]) [] (HM X I A L E) Q := by
  show px_W _ _ _ _ _ _ [some (.ref X.length), some (.int x), some (.int bt), none, none, none, none, none] [] _ _
  refine wp_aload_n d_Mo_change_0 rfl rfl rfl ?_
  refine wp_iload_n d_Mo_change_1 rfl rfl ?_
  refine wp_iconst (v := 1) d_Mo_change_2 rfl ?_
  refine wp_bipush (v := 30) d_Mo_change_3 (by decide) ?_
  refine wp_callV (r := (R_12, T_12, 70)) (M' := m_Mo_in) (as := [_, _, _]) (D' := D - 1) (C1 := 0) (C2 := 0) (S1 := 0) (S2 := 0) d_Mo_change_5 rfl w_1209 w_1211 w_15 hm_0 k_Mo_in (Nat.le_of_ble_eq_true rfl) rfl (Nat.le_of_ble_eq_true rfl) (by omega) rfl rfl ?_
  refine c_Mo_in (by omega)  (fun c_5 => ?_) (fun c_5 => ?_)
  · skip
    refine wp_if_eq (t := 19) d_Mo_change_8 (by decide) (fun c_8 => (absurd c_8 (by decide))) (fun c_8 => ?_)
    refine wp_aload_n d_Mo_change_11 rfl rfl rfl ?_
    refine wp_iload_n d_Mo_change_12 rfl rfl ?_
    refine wp_callV (r := (R_12, T_12, 70)) (M' := m_Mo_isBeat) (as := [_]) (D' := D - 1) (C1 := 0) (C2 := 0) (S1 := 0) (S2 := 0) d_Mo_change_13 rfl w_1361 w_1363 w_45 hm_0 k_Mo_isBeat (Nat.le_of_ble_eq_true rfl) rfl (Nat.le_of_ble_eq_true rfl) (by omega) rfl rfl ?_
    refine c_Mo_isBeat (by omega)  (fun c_13 => ?_) (fun c_13 => ?_)
    · skip
      refine wp_if_ne (t := 22) d_Mo_change_16 (by decide) (fun c_16 => ?_) (fun c_16 => (absurd c_16 (by decide)))
      obtain ⟨nn, hnn, rfl⟩ := sp_n1 (N := 30) rfl c_5
      refine wp_aload_n d_Mo_change_22 rfl rfl rfl ?_
      refine wp_iload_n d_Mo_change_23 rfl rfl ?_
      refine wp_iload_n d_Mo_change_24 rfl rfl ?_
      refine wp_callV (r := (R_12, T_12, 70)) (M' := m_Mo_upBy) (as := [_, _]) (D' := D - 1) (C1 := 0) (C2 := 0) (S1 := 0) (S2 := 0) d_Mo_change_25 rfl w_1407 w_1409 w_53 hm_0 k_Mo_upBy (Nat.le_of_ble_eq_true rfl) rfl (Nat.le_of_ble_eq_true rfl) (by omega) rfl rfl ?_
      refine c_Mo_upBy (by omega) (nn := nn) hw hh e32 hnn (fun I1 A1 hm1 g37 g38 g39 => ?_)
      refine wp_istore_n (ls' := [_, _, _, _, _, _, _, _]) d_Mo_change_28 rfl (by decide) rfl ?_
      refine wp_bipush (v := (-5)) d_Mo_change_29 (by decide) ?_
      refine wp_istore (ls' := [_, _, _, _, _, _, _, _]) d_Mo_change_31 (by decide) rfl ?_
      refine wp_iconst (v := 0) d_Mo_change_33 rfl ?_
      refine wp_istore (ls' := [_, _, _, _, _, _, _, _]) d_Mo_change_34 (by decide) rfl ?_
      exact l_Mo_change_36 (by omega) hw hh e32 hn0 hnn n 0 ((sp_many (A 5, A 6, A 9, ln, n, cl) (I 2) (A 7) (A 8) (nn) (bt) (0) (0)), -5) I1 A1 (by omega) hm1 (kk ⟨c_5, c_13⟩ nn hnn rfl)
    · skip
      refine wp_if_ne (t := 22) d_Mo_change_16 (by decide) (fun c_16 => (absurd c_16 (by decide))) (fun c_16 => ?_)
      refine wp_bipush (v := (-2)) d_Mo_change_19 (by decide) ?_
      refine wp_ireturn d_Mo_change_21 rfl rfl ?_
      first | exact kb (fun z => c_5 z.1) | exact kb (fun z => c_13 z.2)
  · skip
    refine wp_if_eq (t := 19) d_Mo_change_8 (by decide) (fun c_8 => ?_) (fun c_8 => (absurd c_8 (by decide)))
    refine wp_bipush (v := (-2)) d_Mo_change_19 (by decide) ?_
    refine wp_ireturn d_Mo_change_21 rfl rfl ?_
    first | exact kb (fun z => c_5 z.1) | exact kb (fun z => c_13 z.2)
set_option maxRecDepth 4000 in
theorem l_Mo_without_47 {n a : Nat} {m x bt : Int32} (hn0 : I 0 = nI n) (hn6 : n ≤ 6) (ha : a < n) (k : px_W G D 0 0 m_Mo_without 80 [some (.ref X.length), some (.int m), some (.int x), some (.int bt), some (.int (nI a)), none] [] (HM X I (va_up A 10 (sp_sh (A 10) a (n - 1))) L E) Q) : ∀ (q i : Nat), i + q = n - 1 → a ≤ i → px_W G D 0 0 m_Mo_without 47 [some (.ref X.length), some (.int m), some (.int x), some (.int bt), some (.int (nI a)), some (.int (nI i))] [] (HM X I (va_up A 10 (sp_sh (A 10) a i)) L E) Q := by
  intro q
  induction q with
  | zero =>
    intro i hi hai
    have hi6 : i = n - 1 := by omega
    subst hi6
    refine wp_iload d_Mo_without_47 rfl ?_
    refine wp_iconst (v := 1) d_Mo_without_49 rfl ?_
    refine wp_iadd d_Mo_without_50 ?_
    refine wp_aload_n d_Mo_without_51 rfl rfl rfl ?_
    refine gM_0 rfl d_Mo_without_52 ?_
    rw [hn0, nI_1]
    refine wp_icmp_ge (t := 80) d_Mo_without_55 (by decide) (fun c_55 => ?_) (fun c_55 => absurd (nI_le (by omega) (by omega)) c_55)
    refine wp_less (ls' := [some (.ref X.length), some (.int _), some (.int _), some (.int _), some (.int _), none]) ⟨rfl, rfl, rfl, rfl, rfl, trivial⟩ ?_
    exact k
  | succ q ih =>
    intro i hi hai
    have eci : (nI i).toNatClampNeg = i := nI_clamp (by omega)
    have eci1 : (nI (i + 1)).toNatClampNeg = i + 1 := nI_clamp (by omega)
    refine wp_iload d_Mo_without_47 rfl ?_
    refine wp_iconst (v := 1) d_Mo_without_49 rfl ?_
    refine wp_iadd d_Mo_without_50 ?_
    refine wp_aload_n d_Mo_without_51 rfl rfl rfl ?_
    refine gM_0 rfl d_Mo_without_52 ?_
    rw [hn0, nI_1]
    refine wp_icmp_ge (t := 80) d_Mo_without_55 (by decide) (fun c_55 => absurd c_55 (nI_ge (by omega) (by omega))) (fun c_55 => ?_)
    refine wp_aload_n d_Mo_without_58 rfl rfl rfl ?_
    refine gM_10 rfl d_Mo_without_59 ?_
    refine wp_iload d_Mo_without_62 rfl ?_
    refine wp_aload_n d_Mo_without_64 rfl rfl rfl ?_
    refine gM_10 rfl d_Mo_without_65 ?_
    refine wp_iload d_Mo_without_68 rfl ?_
    refine wp_iconst (v := 1) d_Mo_without_70 rfl ?_
    refine wp_iadd d_Mo_without_71 ?_
    rw [nI_1]
    refine lM_10 d_Mo_without_72 (vp_in_nI (by omega) (by decide)) ?_
    refine sM_10 d_Mo_without_73 (vp_in_nI (by omega) (by decide)) ?_
    refine wp_iinc (v := _ + 1) (ls' := [_, _, _, _, _, _]) d_Mo_without_74 (by decide) rfl rfl rfl ?_
    refine wp_goto (t := 47) d_Mo_without_77 (by decide) ?_
    rw [nI_1, eci, eci1, bx_uu]
    refine (show px_W G D 0 0 m_Mo_without 47 [some (.ref X.length), some (.int m), some (.int x), some (.int bt), some (.int (nI a)), some (.int (nI (i + 1)))] [] (HM X I (va_up A 10 (upd (sp_sh (A 10) a i) i (sp_sh (A 10) a i (i + 1)))) L E) Q from ?_)
    rw [show sp_sh (A 10) a i (i + 1) = A 10 (i + 1) from if_neg (by omega), sp_sh_s hai]
    exact ih (i + 1) (by omega) (by omega)
set_option maxRecDepth 4000 in
theorem c_Mo_without {n b : Nat} {ln : Nat → Nat} {cl : List sp_Cl} {m x bt : Int32} {mm a : Nat} (hD : 8 ≤ D) (hw : mo_w I A n ln b cl) (hh : mo_h A) (e32 : I 32 = 9999) (hn0 : I 0 = nI n) (hM : (0 ≤ m ∧ m ≤ I 0 - 1) → m = nI mm ∧ a < n ∧ A 10 a = nI mm ∧ ∀ j, j < a → A 10 j ≠ nI mm) (kn : ¬ (0 ≤ m ∧ m ≤ I 0 - 1) → Q (some (.int (-1))) (HM X I A L E)) (kb : (0 ≤ m ∧ m ≤ I 0 - 1) → ¬ ((1 ≤ x ∧ x ≤ 30) ∧ (1 ≤ bt ∧ bt ≤ 99)) → Q (some (.int (-2))) (HM X I A L E)) (kk : (0 ≤ m ∧ m ≤ I 0 - 1) → ((1 ≤ x ∧ x ≤ 30) ∧ (1 ≤ bt ∧ bt ≤ 99)) → ∀ nn, nn ≤ 30 → x = nI nn → ∀ (I' : Nat → Int32) (A' : Nat → Nat → Int32), ms [29, 30, 31, 33, 36, 37, 38] [28, 34, 35, 39, 40] I I' A A' → Q (some (.int (sp_many (A 5, A 6, A 9, sp_sh ln a (n - 1), n - 1, cl) (I 2) (A 7) (A 8) (nn) (bt) (0) (0)))) (HM X I' A' L E)) : px_W G D 0 0 m_Mo_without 0 (px_ent 6 [.ref X.length, .int m, .int x, .int bt]) [] (HM X I A L E) Q := by
  show px_W _ _ _ _ _ _ [some (.ref X.length), some (.int m), some (.int x), some (.int bt), none, none] [] _ _
  refine wp_aload_n d_Mo_without_0 rfl rfl rfl ?_
  refine wp_iload_n d_Mo_without_1 rfl rfl ?_
  refine wp_callV (r := (R_12, T_12, 70)) (M' := m_Mo_isMan) (as := [_]) (D' := D - 1) (C1 := 0) (C2 := 0) (S1 := 0) (S2 := 0) d_Mo_without_2 rfl w_1217 w_1219 w_16 hm_0 k_Mo_isMan (Nat.le_of_ble_eq_true rfl) rfl (Nat.le_of_ble_eq_true rfl) (by omega) rfl rfl ?_
  refine c_Mo_isMan (by omega)  (fun c_2 => ?_) (fun c_2 => ?_)
  · skip
    refine wp_if_ne (t := 10) d_Mo_without_5 (by decide) (fun c_5 => ?_) (fun c_5 => (absurd c_5 (by decide)))
    refine wp_aload_n d_Mo_without_10 rfl rfl rfl ?_
    refine wp_iload_n d_Mo_without_11 rfl rfl ?_
    refine wp_iconst (v := 1) d_Mo_without_12 rfl ?_
    refine wp_bipush (v := 30) d_Mo_without_13 (by decide) ?_
    refine wp_callV (r := (R_12, T_12, 70)) (M' := m_Mo_in) (as := [_, _, _]) (D' := D - 1) (C1 := 0) (C2 := 0) (S1 := 0) (S2 := 0) d_Mo_without_15 rfl w_1209 w_1211 w_15 hm_0 k_Mo_in (Nat.le_of_ble_eq_true rfl) rfl (Nat.le_of_ble_eq_true rfl) (by omega) rfl rfl ?_
    refine c_Mo_in (by omega)  (fun c_15 => ?_) (fun c_15 => ?_)
    · skip
      refine wp_if_eq (t := 29) d_Mo_without_18 (by decide) (fun c_18 => (absurd c_18 (by decide))) (fun c_18 => ?_)
      refine wp_aload_n d_Mo_without_21 rfl rfl rfl ?_
      refine wp_iload_n d_Mo_without_22 rfl rfl ?_
      refine wp_callV (r := (R_12, T_12, 70)) (M' := m_Mo_isBeat) (as := [_]) (D' := D - 1) (C1 := 0) (C2 := 0) (S1 := 0) (S2 := 0) d_Mo_without_23 rfl w_1361 w_1363 w_45 hm_0 k_Mo_isBeat (Nat.le_of_ble_eq_true rfl) rfl (Nat.le_of_ble_eq_true rfl) (by omega) rfl rfl ?_
      refine c_Mo_isBeat (by omega)  (fun c_23 => ?_) (fun c_23 => ?_)
      · skip
        refine wp_if_ne (t := 32) d_Mo_without_26 (by decide) (fun c_26 => ?_) (fun c_26 => (absurd c_26 (by decide)))
        obtain ⟨rfl, han, hch, hmin⟩ := hM c_2
        obtain ⟨nn, hnn, rfl⟩ := sp_n1 (N := 30) rfl c_15
        have hn6 := hw.1
        have ha6 : a < 6 := by omega
        refine wp_aload_n d_Mo_without_32 rfl rfl rfl ?_
        refine wp_callV (r := (R_12, T_12, 70)) (M' := m_Mo_keepChain) (as := []) (D' := D - 1) (C1 := 0) (C2 := 0) (S1 := 0) (S2 := 0) d_Mo_without_33 rfl w_1423 w_1425 w_54 hm_0 k_Mo_keepChain (Nat.le_of_ble_eq_true rfl) rfl (Nat.le_of_ble_eq_true rfl) (by omega) rfl rfl ?_
        refine c_Mo_keepChain (by omega)  ?_
        refine wp_aload_n d_Mo_without_36 rfl rfl rfl ?_
        refine wp_iload_n d_Mo_without_37 rfl rfl ?_
        refine wp_callV (r := (R_12, T_12, 70)) (M' := m_Mo_placeOf) (as := [_]) (D' := D - 1) (C1 := 0) (C2 := 0) (S1 := 0) (S2 := 0) d_Mo_without_38 rfl w_1229 w_1231 w_17 hm_0 k_Mo_placeOf (Nat.le_of_ble_eq_true rfl) rfl (Nat.le_of_ble_eq_true rfl) (by omega) rfl rfl ?_
        refine c_Mo_placeOf (by omega) (m := mm) (p := a) ha6 hch hmin ?_
        refine wp_istore (ls' := [_, _, _, _, _, _]) d_Mo_without_41 (by decide) rfl ?_
        refine wp_iload d_Mo_without_43 rfl ?_
        refine wp_istore (ls' := [_, _, _, _, _, _]) d_Mo_without_45 (by decide) rfl ?_
        refine wp_less (ls' := [some (.ref X.length), some (.int _), some (.int _), some (.int _), some (.int _), some (.int _)]) ⟨rfl, rfl, rfl, rfl, rfl, rfl, trivial⟩ ?_
        rw [show HM X I (va_up A 40 (sp_cp (A 10) (A 40) 6)) L E = HM X I (va_up (va_up A 40 (sp_cp (A 10) (A 40) 6)) 10 (sp_sh ((va_up A 40 (sp_cp (A 10) (A 40) 6)) 10) a a)) L E from by rw [sp_sh_0, va_us]]
        refine l_Mo_without_47 (A := (va_up A 40 (sp_cp (A 10) (A 40) 6))) hn0 hn6 han ?_ (n - 1 - a) a (by omega) (Nat.le_refl _)
        refine (show px_W G D 0 0 m_Mo_without 80 [some (.ref X.length), some (.int (nI mm)), some (.int (nI nn)), some (.int bt), some (.int (nI a)), none] [] (HM X I (va_up (va_up A 40 (sp_cp (A 10) (A 40) 6)) 10 (sp_sh (A 10) a (n - 1))) L E) Q from ?_)
        refine wp_aload_n d_Mo_without_80 rfl rfl rfl ?_
        refine wp_aload_n d_Mo_without_81 rfl rfl rfl ?_
        refine gM_0 rfl d_Mo_without_82 ?_
        refine wp_iconst (v := 1) d_Mo_without_85 rfl ?_
        refine wp_isub d_Mo_without_86 ?_
        refine pM_1 rfl d_Mo_without_87 ?_
        have e1 : I 0 - 1 = nI (n - 1) := by rw [hn0]; exact pk_sub (b := 1) (by omega)
        rw [e1]
        have hw2 : mo_w (upd I 1 (nI (n - 1))) (va_up (va_up A 40 (sp_cp (A 10) (A 40) 6)) 10 (sp_sh (A 10) a (n - 1))) (n - 1) (sp_sh ln a (n - 1)) b cl := mo_w_chain hw ((ms.rf (SI := [1]) (SA := [10, 40])).i 1 (by decide) _ |>.a 40 (by decide) _ |>.a 10 (by decide) _) (by decide) (by decide) (by omega) rfl (by
          intro p hp
          show (if a ≤ p ∧ p < n - 1 then ln (p + 1) else ln p) < 6 ∧ (if a ≤ p ∧ p < n - 1 then A 10 (p + 1) else A 10 p) = nI (if a ≤ p ∧ p < n - 1 then ln (p + 1) else ln p)
          split
          · exact hw.2.2.1 (p + 1) (by omega)
          · exact hw.2.2.1 p (by omega))
        have hh2 : mo_h (va_up (va_up A 40 (sp_cp (A 10) (A 40) 6)) 10 (sp_sh (A 10) a (n - 1))) := hh
        have e2 : upd I 1 (nI (n - 1)) 32 = 9999 := e32
        refine wp_aload_n d_Mo_without_90 rfl rfl rfl ?_
        refine wp_iload_n d_Mo_without_91 rfl rfl ?_
        refine wp_iload_n d_Mo_without_92 rfl rfl ?_
        refine wp_callV (r := (R_12, T_12, 70)) (M' := m_Mo_upBy) (as := [_, _]) (D' := D - 1) (C1 := 0) (C2 := 0) (S1 := 0) (S2 := 0) d_Mo_without_93 rfl w_1407 w_1409 w_53 hm_0 k_Mo_upBy (Nat.le_of_ble_eq_true rfl) rfl (Nat.le_of_ble_eq_true rfl) (by omega) rfl rfl ?_
        refine c_Mo_upBy (by omega) (nn := nn) hw2 hh2 e2 hnn (fun I1 A1 hm1 g37 g38 g39 => ?_)
        refine wp_istore (ls' := [_, _, _, _, _, _]) d_Mo_without_96 (by decide) rfl ?_
        refine wp_aload_n d_Mo_without_98 rfl rfl rfl ?_
        refine wp_aload_n d_Mo_without_99 rfl rfl rfl ?_
        refine gM_0 rfl d_Mo_without_100 ?_
        refine pM_1 rfl d_Mo_without_103 ?_
        refine wp_aload_n d_Mo_without_106 rfl rfl rfl ?_
        refine wp_callV (r := (R_12, T_12, 70)) (M' := m_Mo_putChain) (as := []) (D' := D - 1) (C1 := 0) (C2 := 0) (S1 := 0) (S2 := 0) d_Mo_without_107 rfl w_1435 w_1437 w_57 hm_0 k_Mo_putChain (Nat.le_of_ble_eq_true rfl) rfl (Nat.le_of_ble_eq_true rfl) (by omega) rfl rfl ?_
        refine c_Mo_putChain (by omega)  ?_
        refine wp_iload d_Mo_without_110 rfl ?_
        refine wp_ireturn d_Mo_without_112 rfl rfl ?_
        refine kk c_2 ⟨c_15, c_23⟩ nn hnn rfl _ _ ⟨fun k hk => ?_, fun k hk => ?_⟩
        · show (if k = 1 then I1 0 else I1 k) = I k
          by_cases h : k = 1
          · rw [if_pos h, h, hm1.1 0 (by decide), hw.2.1]; exact hn0
          · rw [if_neg h, hm1.1 k hk]; exact if_neg h
        · have h40 : k ≠ 40 := fun e => hk (by rw [e]; decide)
          have hk2 : k ∉ [28, 34, 35, 39] := fun z => hk (List.mem_append_left [40] z)
          show (if k = 10 then sp_cp (A1 40) (A1 10) 6 else A1 k) = A k
          by_cases h : k = 10
          · rw [if_pos h, hm1.2 40 (by decide), hm1.2 10 (by decide), h]
            funext j
            show (if j < 6 then (if j < 6 then A 10 j else A 40 j) else (if a ≤ j ∧ j < n - 1 then A 10 (j + 1) else A 10 j)) = A 10 j
            by_cases hj : j < 6
            · rw [if_pos hj, if_pos hj]
            · rw [if_neg hj, if_neg (by omega)]
          · rw [if_neg h, hm1.2 k hk2]
            exact (if_neg h).trans (if_neg h40)
      · skip
        refine wp_if_ne (t := 32) d_Mo_without_26 (by decide) (fun c_26 => (absurd c_26 (by decide))) (fun c_26 => ?_)
        refine wp_bipush (v := (-2)) d_Mo_without_29 (by decide) ?_
        refine wp_ireturn d_Mo_without_31 rfl rfl ?_
        first | exact kb c_2 (fun z => c_15 z.1) | exact kb c_2 (fun z => c_23 z.2)
    · skip
      refine wp_if_eq (t := 29) d_Mo_without_18 (by decide) (fun c_18 => ?_) (fun c_18 => (absurd c_18 (by decide)))
      refine wp_bipush (v := (-2)) d_Mo_without_29 (by decide) ?_
      refine wp_ireturn d_Mo_without_31 rfl rfl ?_
      first | exact kb c_2 (fun z => c_15 z.1) | exact kb c_2 (fun z => c_23 z.2)
  · skip
    refine wp_if_ne (t := 10) d_Mo_without_5 (by decide) (fun c_5 => (absurd c_5 (by decide))) (fun c_5 => ?_)
    refine wp_iconst (v := (-1)) d_Mo_without_8 rfl ?_
    refine wp_ireturn d_Mo_without_9 rfl rfl ?_
    exact kn c_2
end MOF
