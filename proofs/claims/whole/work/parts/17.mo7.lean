def sp_nrw (s : Int32) (z : Int64) : Int64 := if s = 0 then z.toInt32.toInt8.toInt32.toInt64 else if s = 1 then z.toInt32.toInt16.toInt32.toInt64 else if s = 2 then z.toInt32.toInt64 else if s = 4 then (if lg_cmp z 0 = 0 then 0 else 1) else z
/-- FREE judged: sort below 0: the row holds nothing -/
def sp_jdg (f : Nat → Int32) (it : Nat → Int64) (so len i : Int32) : Nat → Nat → Int32
  | 0, _ => -5
  | q + 1, m => if so < 0 ∨ i < 0 ∨ len - nI m - 1 < i then 100 + nI m else if lg_cmp (it m) (f m).toInt64 = 0 then sp_jdg f it so len i q (m + 1) else nI m
/-- SLOWEST -/
def sp_slw (s : sp_St) (held : Nat → Int32) : Nat → Nat → Int32 → Int32 → Int32
  | 0, _, w, _ => w
  | q + 1, p, w, most => if 0 ≤ w ∧ sp_hold s held p ≤ most then sp_slw s held q (p + 1) w most else sp_slw s held q (p + 1) (nI (s.2.2.2.1 p)) (sp_hold s held p)
/-- a row's first n places out of another -/
def sp_cp {α : Type} (f g : Nat → α) (n : Nat) : Nat → α := fun j => if j < n then f j else g j
theorem sp_cp_s {f g : Nat → Int32} {n : Nat} : upd (sp_cp f g n) n (f n) = sp_cp f g (n + 1) := by
  funext j
  show (if j = n then f n else if j < n then f j else g j) = if j < n + 1 then f j else g j
  by_cases h : j = n
  · subst h; rw [if_pos rfl, if_pos (by omega)]
  · rw [if_neg h]
    by_cases h2 : j < n
    · rw [if_pos h2, if_pos (by omega)]
    · rw [if_neg h2, if_neg (by omega)]
theorem sp_cp_0 {α : Type} {f g : Nat → α} : sp_cp f g 0 = g := by funext j; exact if_neg (by omega)
section MO7
variable {G : px_G} {D : Nat} {X E : px_H} {I : Nat → Int32} {A : Nat → Nat → Int32} {L : Nat → Nat → Int64} {Q : Option Value → px_H → Prop}
set_option maxRecDepth 4000 in
theorem c_Mo_see {x : Int32} (hD : 1 ≤ D) (hv : ¬ I 42 = 6 → vp_in (I 42) 6) (ke : x = -1 → Q (some (.int 0)) (HM X (upd I 42 0) A L E)) (kb : ¬ x = -1 → ¬ (0 ≤ x ∧ x ≤ 19) → Q (some (.int (-2))) (HM X I A L E)) (kf : ¬ x = -1 → (0 ≤ x ∧ x ≤ 19) → I 42 = 6 → Q (some (.int (-4))) (HM X I A L E)) (kk : ¬ x = -1 → (0 ≤ x ∧ x ≤ 19) → ¬ I 42 = 6 → Q (some (.int (I 42 + 1))) (HM X (upd I 42 (I 42 + 1)) (va_up A 43 (upd (A 43) (I 42).toNatClampNeg x)) L E)) : px_W G D 0 0 m_Mo_see 0 (px_ent 2 [.ref X.length, .int x]) [] (HM X I A L E) Q := by
  show px_W _ _ _ _ _ _ [some (.ref X.length), some (.int x)] [] _ _
  refine wp_iload_n d_Mo_see_0 rfl rfl ?_
  refine wp_iconst (v := (-1)) d_Mo_see_1 rfl ?_
  refine wp_icmp_ne (t := 12) d_Mo_see_2 (by decide) (fun c_2 => ?_) (fun c_2 => ?_)
  · skip
    refine wp_aload_n d_Mo_see_12 rfl rfl rfl ?_
    refine wp_iload_n d_Mo_see_13 rfl rfl ?_
    refine wp_iconst (v := 0) d_Mo_see_14 rfl ?_
    refine wp_bipush (v := 19) d_Mo_see_15 (by decide) ?_
    refine wp_callV (r := (R_12, T_12, 70)) (M' := m_Mo_in) (as := [_, _, _]) (D' := D - 1) (C1 := 0) (C2 := 0) (S1 := 0) (S2 := 0) d_Mo_see_17 rfl w_1209 w_1211 w_15 hm_0 k_Mo_in (Nat.le_of_ble_eq_true rfl) rfl (Nat.le_of_ble_eq_true rfl) (by omega) rfl rfl ?_
    refine c_Mo_in (by omega)  (fun c_17 => ?_) (fun c_17 => ?_)
    · skip
      refine wp_if_ne (t := 26) d_Mo_see_20 (by decide) (fun c_20 => ?_) (fun c_20 => (absurd c_20 (by decide)))
      refine wp_aload_n d_Mo_see_26 rfl rfl rfl ?_
      refine gM_42 rfl d_Mo_see_27 ?_
      refine wp_bipush (v := 6) d_Mo_see_30 (by decide) ?_
      refine wp_icmp_ne (t := 38) d_Mo_see_32 (by decide) (fun c_32 => ?_) (fun c_32 => ?_)
      · skip
        refine wp_aload_n d_Mo_see_38 rfl rfl rfl ?_
        refine gM_43 rfl d_Mo_see_39 ?_
        refine wp_aload_n d_Mo_see_42 rfl rfl rfl ?_
        refine gM_42 rfl d_Mo_see_43 ?_
        refine wp_iload_n d_Mo_see_46 rfl rfl ?_
        refine sM_43 d_Mo_see_47 (hv c_32) ?_
        refine wp_aload_n d_Mo_see_48 rfl rfl rfl ?_
        refine wp_dup d_Mo_see_49 rfl ?_
        refine gM_42 rfl d_Mo_see_50 ?_
        refine wp_iconst (v := 1) d_Mo_see_53 rfl ?_
        refine wp_iadd d_Mo_see_54 ?_
        refine pM_42 rfl d_Mo_see_55 ?_
        refine wp_aload_n d_Mo_see_58 rfl rfl rfl ?_
        refine gM_42 rfl d_Mo_see_59 ?_
        refine wp_ireturn d_Mo_see_62 rfl rfl ?_
        exact kk c_2 c_17 c_32
      · skip
        refine wp_bipush (v := (-4)) d_Mo_see_35 (by decide) ?_
        refine wp_ireturn d_Mo_see_37 rfl rfl ?_
        exact kf c_2 c_17 c_32
    · skip
      refine wp_if_ne (t := 26) d_Mo_see_20 (by decide) (fun c_20 => (absurd c_20 (by decide))) (fun c_20 => ?_)
      refine wp_bipush (v := (-2)) d_Mo_see_23 (by decide) ?_
      refine wp_ireturn d_Mo_see_25 rfl rfl ?_
      exact kb c_2 c_17
  · skip
    refine wp_aload_n d_Mo_see_5 rfl rfl rfl ?_
    refine wp_iconst (v := 0) d_Mo_see_6 rfl ?_
    refine pM_42 rfl d_Mo_see_7 ?_
    refine wp_iconst (v := 0) d_Mo_see_10 rfl ?_
    refine wp_ireturn d_Mo_see_11 rfl rfl ?_
    exact ke c_2
set_option maxRecDepth 4000 in
theorem c_Mo_book {x u : Int32} (hD : 1 ≤ D) (hv : ¬ I 44 = 8 → vp_in (I 44) 8) (ke : x = -1 → Q (some (.int 0)) (HM X (upd I 44 0) A L E)) (kb : ¬ x = -1 → ¬ (0 ≤ x ∧ x ≤ 19) → Q (some (.int (-2))) (HM X I A L E)) (kf : ¬ x = -1 → (0 ≤ x ∧ x ≤ 19) → I 44 = 8 → Q (some (.int (-4))) (HM X I A L E)) (kk : ¬ x = -1 → (0 ≤ x ∧ x ≤ 19) → ¬ I 44 = 8 → Q (some (.int (I 44 + 1))) (HM X (upd I 44 (I 44 + 1)) (va_up (va_up A 45 (upd (A 45) (I 44).toNatClampNeg x)) 46 (upd (A 46) (I 44).toNatClampNeg (vp_nar .boolean u))) L E)) : px_W G D 0 0 m_Mo_book 0 (px_ent 3 [.ref X.length, .int x, .int u]) [] (HM X I A L E) Q := by
  show px_W _ _ _ _ _ _ [some (.ref X.length), some (.int x), some (.int u)] [] _ _
  refine wp_iload_n d_Mo_book_0 rfl rfl ?_
  refine wp_iconst (v := (-1)) d_Mo_book_1 rfl ?_
  refine wp_icmp_ne (t := 12) d_Mo_book_2 (by decide) (fun c_2 => ?_) (fun c_2 => ?_)
  · skip
    refine wp_aload_n d_Mo_book_12 rfl rfl rfl ?_
    refine wp_iload_n d_Mo_book_13 rfl rfl ?_
    refine wp_iconst (v := 0) d_Mo_book_14 rfl ?_
    refine wp_bipush (v := 19) d_Mo_book_15 (by decide) ?_
    refine wp_callV (r := (R_12, T_12, 70)) (M' := m_Mo_in) (as := [_, _, _]) (D' := D - 1) (C1 := 0) (C2 := 0) (S1 := 0) (S2 := 0) d_Mo_book_17 rfl w_1209 w_1211 w_15 hm_0 k_Mo_in (Nat.le_of_ble_eq_true rfl) rfl (Nat.le_of_ble_eq_true rfl) (by omega) rfl rfl ?_
    refine c_Mo_in (by omega)  (fun c_17 => ?_) (fun c_17 => ?_)
    · skip
      refine wp_if_ne (t := 26) d_Mo_book_20 (by decide) (fun c_20 => ?_) (fun c_20 => (absurd c_20 (by decide)))
      refine wp_aload_n d_Mo_book_26 rfl rfl rfl ?_
      refine gM_44 rfl d_Mo_book_27 ?_
      refine wp_bipush (v := 8) d_Mo_book_30 (by decide) ?_
      refine wp_icmp_ne (t := 38) d_Mo_book_32 (by decide) (fun c_32 => ?_) (fun c_32 => ?_)
      · skip
        refine wp_aload_n d_Mo_book_38 rfl rfl rfl ?_
        refine gM_45 rfl d_Mo_book_39 ?_
        refine wp_aload_n d_Mo_book_42 rfl rfl rfl ?_
        refine gM_44 rfl d_Mo_book_43 ?_
        refine wp_iload_n d_Mo_book_46 rfl rfl ?_
        refine sM_45 d_Mo_book_47 (hv c_32) ?_
        refine wp_aload_n d_Mo_book_48 rfl rfl rfl ?_
        refine gM_46 rfl d_Mo_book_49 ?_
        refine wp_aload_n d_Mo_book_52 rfl rfl rfl ?_
        refine gM_44 rfl d_Mo_book_53 ?_
        refine wp_iload_n d_Mo_book_56 rfl rfl ?_
        refine sM_46 d_Mo_book_57 (hv c_32) ?_
        refine wp_aload_n d_Mo_book_58 rfl rfl rfl ?_
        refine wp_dup d_Mo_book_59 rfl ?_
        refine gM_44 rfl d_Mo_book_60 ?_
        refine wp_iconst (v := 1) d_Mo_book_63 rfl ?_
        refine wp_iadd d_Mo_book_64 ?_
        refine pM_44 rfl d_Mo_book_65 ?_
        refine wp_aload_n d_Mo_book_68 rfl rfl rfl ?_
        refine gM_44 rfl d_Mo_book_69 ?_
        refine wp_ireturn d_Mo_book_72 rfl rfl ?_
        exact kk c_2 c_17 c_32
      · skip
        refine wp_bipush (v := (-4)) d_Mo_book_35 (by decide) ?_
        refine wp_ireturn d_Mo_book_37 rfl rfl ?_
        exact kf c_2 c_17 c_32
    · skip
      refine wp_if_ne (t := 26) d_Mo_book_20 (by decide) (fun c_20 => (absurd c_20 (by decide))) (fun c_20 => ?_)
      refine wp_bipush (v := (-2)) d_Mo_book_23 (by decide) ?_
      refine wp_ireturn d_Mo_book_25 rfl rfl ?_
      exact kb c_2 c_17
  · skip
    refine wp_aload_n d_Mo_book_5 rfl rfl rfl ?_
    refine wp_iconst (v := 0) d_Mo_book_6 rfl ?_
    refine pM_44 rfl d_Mo_book_7 ?_
    refine wp_iconst (v := 0) d_Mo_book_10 rfl ?_
    refine wp_ireturn d_Mo_book_11 rfl rfl ?_
    exact ke c_2
set_option maxRecDepth 4000 in
theorem c_Mo_isTape {t : Int32} (hD : 1 ≤ D) (kt : 0 ≤ t ∧ t ≤ 5 → Q (some (.int 1)) (HM X I A L E)) (kf : ¬ (0 ≤ t ∧ t ≤ 5) → Q (some (.int 0)) (HM X I A L E)) : px_W G D 0 0 m_Mo_isTape 0 (px_ent 2 [.ref X.length, .int t]) [] (HM X I A L E) Q := by
  show px_W _ _ _ _ _ _ [some (.ref X.length), some (.int t)] [] _ _
  refine wp_aload_n d_Mo_isTape_0 rfl rfl rfl ?_
  refine wp_iload_n d_Mo_isTape_1 rfl rfl ?_
  refine wp_iconst (v := 0) d_Mo_isTape_2 rfl ?_
  refine wp_iconst (v := 5) d_Mo_isTape_3 rfl ?_
  refine wp_callV (r := (R_12, T_12, 70)) (M' := m_Mo_in) (as := [_, _, _]) (D' := D - 1) (C1 := 0) (C2 := 0) (S1 := 0) (S2 := 0) d_Mo_isTape_4 rfl w_1209 w_1211 w_15 hm_0 k_Mo_in (Nat.le_of_ble_eq_true rfl) rfl (Nat.le_of_ble_eq_true rfl) (by omega) rfl rfl ?_
  refine c_Mo_in (by omega)  (fun c_4 => ?_) (fun c_4 => ?_)
  · skip
    refine wp_ireturn d_Mo_isTape_7 rfl rfl ?_
    exact kt c_4
  · skip
    refine wp_ireturn d_Mo_isTape_7 rfl rfl ?_
    exact kf c_4
set_option maxRecDepth 4000 in
theorem c_Mo_narrow {sv : Int32} {z : Int64} (hD : 0 ≤ D) (k : Q (some (.long (sp_nrw sv z))) (HM X I A L E)) : px_W G D 0 0 m_Mo_narrow 0 (px_ent 4 [.ref X.length, .int sv, .long z]) [] (HM X I A L E) Q := by
  show px_W _ _ _ _ _ _ [some (.ref X.length), some (.int sv), some (.long z), none] [] _ _
  refine wp_iload_n d_Mo_narrow_0 rfl rfl ?_
  refine wp_if_ne (t := 11) d_Mo_narrow_1 (by decide) (fun c_1 => ?_) (fun c_1 => ?_)
  · skip
    refine wp_iload_n d_Mo_narrow_11 rfl rfl ?_
    refine wp_iconst (v := 1) d_Mo_narrow_12 rfl ?_
    refine wp_icmp_ne (t := 23) d_Mo_narrow_13 (by decide) (fun c_13 => ?_) (fun c_13 => ?_)
    · skip
      refine wp_iload_n d_Mo_narrow_23 rfl rfl ?_
      refine wp_iconst (v := 2) d_Mo_narrow_24 rfl ?_
      refine wp_icmp_ne (t := 34) d_Mo_narrow_25 (by decide) (fun c_25 => ?_) (fun c_25 => ?_)
      · skip
        refine wp_iload_n d_Mo_narrow_34 rfl rfl ?_
        refine wp_iconst (v := 4) d_Mo_narrow_35 rfl ?_
        refine wp_icmp_ne (t := 53) d_Mo_narrow_36 (by decide) (fun c_36 => ?_) (fun c_36 => ?_)
        · skip
          refine wp_lload_n d_Mo_narrow_53 rfl rfl ?_
          refine wp_lreturn d_Mo_narrow_54 rfl ?_
          first
            | (rw [show sp_nrw sv z = _ from if_pos c_1] at k; exact k)
            | (rw [show sp_nrw sv z = _ from (if_neg c_1).trans (if_pos c_13)] at k; exact k)
            | (rw [show sp_nrw sv z = _ from (if_neg c_1).trans ((if_neg c_13).trans (if_pos c_25))] at k; exact k)
            | (rw [show sp_nrw sv z = _ from (if_neg c_1).trans ((if_neg c_13).trans ((if_neg c_25).trans ((if_pos c_36).trans (if_pos c_42))))] at k; exact k)
            | (rw [show sp_nrw sv z = _ from (if_neg c_1).trans ((if_neg c_13).trans ((if_neg c_25).trans ((if_pos c_36).trans (if_neg c_42))))] at k; exact k)
            | (rw [show sp_nrw sv z = _ from (if_neg c_1).trans ((if_neg c_13).trans ((if_neg c_25).trans (if_neg c_36)))] at k; exact k)
        · skip
          refine wp_lload_n d_Mo_narrow_39 rfl rfl ?_
          refine wp_lconst (v := 0) d_Mo_narrow_40 rfl ?_
          refine wp_lcmp d_Mo_narrow_41 ?_
          refine wp_if_eq (t := 49) d_Mo_narrow_42 (by decide) (fun c_42 => ?_) (fun c_42 => ?_)
          · skip
            refine wp_lconst (v := 0) d_Mo_narrow_49 rfl ?_
            refine wp_goto (t := 54) d_Mo_narrow_50 (by decide) ?_
            refine wp_lreturn d_Mo_narrow_54 rfl ?_
            first
              | (rw [show sp_nrw sv z = _ from if_pos c_1] at k; exact k)
              | (rw [show sp_nrw sv z = _ from (if_neg c_1).trans (if_pos c_13)] at k; exact k)
              | (rw [show sp_nrw sv z = _ from (if_neg c_1).trans ((if_neg c_13).trans (if_pos c_25))] at k; exact k)
              | (rw [show sp_nrw sv z = _ from (if_neg c_1).trans ((if_neg c_13).trans ((if_neg c_25).trans ((if_pos c_36).trans (if_pos c_42))))] at k; exact k)
              | (rw [show sp_nrw sv z = _ from (if_neg c_1).trans ((if_neg c_13).trans ((if_neg c_25).trans ((if_pos c_36).trans (if_neg c_42))))] at k; exact k)
              | (rw [show sp_nrw sv z = _ from (if_neg c_1).trans ((if_neg c_13).trans ((if_neg c_25).trans (if_neg c_36)))] at k; exact k)
          · skip
            refine wp_lconst (v := 1) d_Mo_narrow_45 rfl ?_
            refine wp_goto (t := 54) d_Mo_narrow_46 (by decide) ?_
            refine wp_lreturn d_Mo_narrow_54 rfl ?_
            first
              | (rw [show sp_nrw sv z = _ from if_pos c_1] at k; exact k)
              | (rw [show sp_nrw sv z = _ from (if_neg c_1).trans (if_pos c_13)] at k; exact k)
              | (rw [show sp_nrw sv z = _ from (if_neg c_1).trans ((if_neg c_13).trans (if_pos c_25))] at k; exact k)
              | (rw [show sp_nrw sv z = _ from (if_neg c_1).trans ((if_neg c_13).trans ((if_neg c_25).trans ((if_pos c_36).trans (if_pos c_42))))] at k; exact k)
              | (rw [show sp_nrw sv z = _ from (if_neg c_1).trans ((if_neg c_13).trans ((if_neg c_25).trans ((if_pos c_36).trans (if_neg c_42))))] at k; exact k)
              | (rw [show sp_nrw sv z = _ from (if_neg c_1).trans ((if_neg c_13).trans ((if_neg c_25).trans (if_neg c_36)))] at k; exact k)
      · skip
        refine wp_lload_n d_Mo_narrow_28 rfl rfl ?_
        refine wp_l2i d_Mo_narrow_29 ?_
        refine wp_i2l d_Mo_narrow_30 ?_
        refine wp_goto (t := 54) d_Mo_narrow_31 (by decide) ?_
        refine wp_lreturn d_Mo_narrow_54 rfl ?_
        first
          | (rw [show sp_nrw sv z = _ from if_pos c_1] at k; exact k)
          | (rw [show sp_nrw sv z = _ from (if_neg c_1).trans (if_pos c_13)] at k; exact k)
          | (rw [show sp_nrw sv z = _ from (if_neg c_1).trans ((if_neg c_13).trans (if_pos c_25))] at k; exact k)
          | (rw [show sp_nrw sv z = _ from (if_neg c_1).trans ((if_neg c_13).trans ((if_neg c_25).trans ((if_pos c_36).trans (if_pos c_42))))] at k; exact k)
          | (rw [show sp_nrw sv z = _ from (if_neg c_1).trans ((if_neg c_13).trans ((if_neg c_25).trans ((if_pos c_36).trans (if_neg c_42))))] at k; exact k)
          | (rw [show sp_nrw sv z = _ from (if_neg c_1).trans ((if_neg c_13).trans ((if_neg c_25).trans (if_neg c_36)))] at k; exact k)
    · skip
      refine wp_lload_n d_Mo_narrow_16 rfl rfl ?_
      refine wp_l2i d_Mo_narrow_17 ?_
      refine wp_i2s d_Mo_narrow_18 ?_
      refine wp_i2l d_Mo_narrow_19 ?_
      refine wp_goto (t := 54) d_Mo_narrow_20 (by decide) ?_
      refine wp_lreturn d_Mo_narrow_54 rfl ?_
      first
        | (rw [show sp_nrw sv z = _ from if_pos c_1] at k; exact k)
        | (rw [show sp_nrw sv z = _ from (if_neg c_1).trans (if_pos c_13)] at k; exact k)
        | (rw [show sp_nrw sv z = _ from (if_neg c_1).trans ((if_neg c_13).trans (if_pos c_25))] at k; exact k)
        | (rw [show sp_nrw sv z = _ from (if_neg c_1).trans ((if_neg c_13).trans ((if_neg c_25).trans ((if_pos c_36).trans (if_pos c_42))))] at k; exact k)
        | (rw [show sp_nrw sv z = _ from (if_neg c_1).trans ((if_neg c_13).trans ((if_neg c_25).trans ((if_pos c_36).trans (if_neg c_42))))] at k; exact k)
        | (rw [show sp_nrw sv z = _ from (if_neg c_1).trans ((if_neg c_13).trans ((if_neg c_25).trans (if_neg c_36)))] at k; exact k)
  · skip
    refine wp_lload_n d_Mo_narrow_4 rfl rfl ?_
    refine wp_l2i d_Mo_narrow_5 ?_
    refine wp_i2b d_Mo_narrow_6 ?_
    refine wp_i2l d_Mo_narrow_7 ?_
    refine wp_goto (t := 54) d_Mo_narrow_8 (by decide) ?_
    refine wp_lreturn d_Mo_narrow_54 rfl ?_
    first
      | (rw [show sp_nrw sv z = _ from if_pos c_1] at k; exact k)
      | (rw [show sp_nrw sv z = _ from (if_neg c_1).trans (if_pos c_13)] at k; exact k)
      | (rw [show sp_nrw sv z = _ from (if_neg c_1).trans ((if_neg c_13).trans (if_pos c_25))] at k; exact k)
      | (rw [show sp_nrw sv z = _ from (if_neg c_1).trans ((if_neg c_13).trans ((if_neg c_25).trans ((if_pos c_36).trans (if_pos c_42))))] at k; exact k)
      | (rw [show sp_nrw sv z = _ from (if_neg c_1).trans ((if_neg c_13).trans ((if_neg c_25).trans ((if_pos c_36).trans (if_neg c_42))))] at k; exact k)
      | (rw [show sp_nrw sv z = _ from (if_neg c_1).trans ((if_neg c_13).trans ((if_neg c_25).trans (if_neg c_36)))] at k; exact k)
set_option maxRecDepth 4000 in
theorem c_Mo_trace {i : Int32} (hD : 1 ≤ D) (kk : (0 ≤ i ∧ i ≤ 19) → i < I 64 → Q (some (.int (A 65 i.toNatClampNeg))) (HM X I A L E)) (kn : ¬ ((0 ≤ i ∧ i ≤ 19) ∧ i < I 64) → Q (some (.int (-1))) (HM X I A L E)) : px_W G D 0 0 m_Mo_trace 0 (px_ent 2 [.ref X.length, .int i]) [] (HM X I A L E) Q := by
  show px_W _ _ _ _ _ _ [some (.ref X.length), some (.int i)] [] _ _
  refine wp_aload_n d_Mo_trace_0 rfl rfl rfl ?_
  refine wp_iload_n d_Mo_trace_1 rfl rfl ?_
  refine wp_iconst (v := 0) d_Mo_trace_2 rfl ?_
  refine wp_bipush (v := 19) d_Mo_trace_3 (by decide) ?_
  refine wp_callV (r := (R_12, T_12, 70)) (M' := m_Mo_in) (as := [_, _, _]) (D' := D - 1) (C1 := 0) (C2 := 0) (S1 := 0) (S2 := 0) d_Mo_trace_5 rfl w_1209 w_1211 w_15 hm_0 k_Mo_in (Nat.le_of_ble_eq_true rfl) rfl (Nat.le_of_ble_eq_true rfl) (by omega) rfl rfl ?_
  refine c_Mo_in (by omega)  (fun c_5 => ?_) (fun c_5 => ?_)
  · skip
    refine wp_if_eq (t := 28) d_Mo_trace_8 (by decide) (fun c_8 => (absurd c_8 (by decide))) (fun c_8 => ?_)
    refine wp_iload_n d_Mo_trace_11 rfl rfl ?_
    refine wp_aload_n d_Mo_trace_12 rfl rfl rfl ?_
    refine gM_64 rfl d_Mo_trace_13 ?_
    refine wp_icmp_ge (t := 28) d_Mo_trace_16 (by decide) (fun c_16 => ?_) (fun c_16 => ?_)
    · skip
      refine wp_iconst (v := (-1)) d_Mo_trace_28 rfl ?_
      refine wp_ireturn d_Mo_trace_29 rfl rfl ?_
      first | exact kk c_5 (Int32.not_le.mp c_16) | exact kn (fun z => absurd z.2 (Int32.not_lt.mpr c_16)) | exact kn (fun z => c_5 z.1)
    · skip
      refine wp_aload_n d_Mo_trace_19 rfl rfl rfl ?_
      refine gM_65 rfl d_Mo_trace_20 ?_
      refine wp_iload_n d_Mo_trace_23 rfl rfl ?_
      refine lM_65 d_Mo_trace_24 (vp_in_iff.mpr (by have h1 := Int32.le_iff_toInt_le.mp c_5.1; have h2 := Int32.le_iff_toInt_le.mp c_5.2; exact ⟨h1, by have h3 : (19 : Int32).toInt = 19 := rfl; omega⟩)) ?_
      refine wp_goto (t := 29) d_Mo_trace_25 (by decide) ?_
      refine wp_ireturn d_Mo_trace_29 rfl rfl ?_
      first | exact kk c_5 (Int32.not_le.mp c_16) | exact kn (fun z => absurd z.2 (Int32.not_lt.mpr c_16)) | exact kn (fun z => c_5 z.1)
  · skip
    refine wp_if_eq (t := 28) d_Mo_trace_8 (by decide) (fun c_8 => ?_) (fun c_8 => (absurd c_8 (by decide)))
    refine wp_iconst (v := (-1)) d_Mo_trace_28 rfl ?_
    refine wp_ireturn d_Mo_trace_29 rfl rfl ?_
    first | exact kk c_5 (Int32.not_le.mp c_16) | exact kn (fun z => absurd z.2 (Int32.not_lt.mpr c_16)) | exact kn (fun z => c_5 z.1)
set_option maxRecDepth 4000 in
theorem c_Mo_count {x : Int32} (hD : 0 ≤ D) (k0 : x = 0 → Q (some (.int (I 0))) (HM X I A L E)) (k1 : x = 1 → Q (some (.int (I 11))) (HM X I A L E)) (k2 : x = 2 → Q (some (.int (I 42))) (HM X I A L E)) (k3 : x = 3 → Q (some (.int (I 44))) (HM X I A L E)) (k4 : x = 4 → Q (some (.int (I 13))) (HM X I A L E)) (k5 : x = 5 → Q (some (.int (I 64))) (HM X I A L E)) (kb : ¬ x = 0 → ¬ x = 1 → ¬ x = 2 → ¬ x = 3 → ¬ x = 4 → ¬ x = 5 → Q (some (.int (-2))) (HM X I A L E)) : px_W G D 0 0 m_Mo_count 0 (px_ent 2 [.ref X.length, .int x]) [] (HM X I A L E) Q := by
  show px_W _ _ _ _ _ _ [some (.ref X.length), some (.int x)] [] _ _
  refine wp_iload_n d_Mo_count_0 rfl rfl ?_
  refine wp_topi (fun y_1 e_1 => ?_)
  by_cases s_1_0 : y_1 = 0
  · rw [s_1_0]
    refine wp_tableIn (off := 39) (t := 40) d_Mo_count_1 (by decide) (by decide) rfl (by decide) ?_
    refine wp_aload_n d_Mo_count_40 rfl rfl rfl ?_
    refine gM_0 rfl d_Mo_count_41 ?_
    refine wp_ireturn d_Mo_count_44 rfl rfl ?_
    exact k0 (e_1.symm.trans s_1_0)
  by_cases s_1_1 : y_1 = 1
  · rw [s_1_1]
    refine wp_tableIn (off := 44) (t := 45) d_Mo_count_1 (by decide) (by decide) rfl (by decide) ?_
    refine wp_aload_n d_Mo_count_45 rfl rfl rfl ?_
    refine gM_11 rfl d_Mo_count_46 ?_
    refine wp_ireturn d_Mo_count_49 rfl rfl ?_
    exact k1 (e_1.symm.trans s_1_1)
  by_cases s_1_2 : y_1 = 2
  · rw [s_1_2]
    refine wp_tableIn (off := 49) (t := 50) d_Mo_count_1 (by decide) (by decide) rfl (by decide) ?_
    refine wp_aload_n d_Mo_count_50 rfl rfl rfl ?_
    refine gM_42 rfl d_Mo_count_51 ?_
    refine wp_ireturn d_Mo_count_54 rfl rfl ?_
    exact k2 (e_1.symm.trans s_1_2)
  by_cases s_1_3 : y_1 = 3
  · rw [s_1_3]
    refine wp_tableIn (off := 54) (t := 55) d_Mo_count_1 (by decide) (by decide) rfl (by decide) ?_
    refine wp_aload_n d_Mo_count_55 rfl rfl rfl ?_
    refine gM_44 rfl d_Mo_count_56 ?_
    refine wp_ireturn d_Mo_count_59 rfl rfl ?_
    exact k3 (e_1.symm.trans s_1_3)
  by_cases s_1_4 : y_1 = 4
  · rw [s_1_4]
    refine wp_tableIn (off := 59) (t := 60) d_Mo_count_1 (by decide) (by decide) rfl (by decide) ?_
    refine wp_aload_n d_Mo_count_60 rfl rfl rfl ?_
    refine gM_13 rfl d_Mo_count_61 ?_
    refine wp_ireturn d_Mo_count_64 rfl rfl ?_
    exact k4 (e_1.symm.trans s_1_4)
  by_cases s_1_5 : y_1 = 5
  · rw [s_1_5]
    refine wp_tableIn (off := 64) (t := 65) d_Mo_count_1 (by decide) (by decide) rfl (by decide) ?_
    refine wp_aload_n d_Mo_count_65 rfl rfl rfl ?_
    refine gM_64 rfl d_Mo_count_66 ?_
    refine wp_ireturn d_Mo_count_69 rfl rfl ?_
    exact k5 (e_1.symm.trans s_1_5)
  have n_1_0 : y_1.toInt ≠ 0 := lv_neT s_1_0 rfl
  have n_1_1 : y_1.toInt ≠ 1 := lv_neT s_1_1 rfl
  have n_1_2 : y_1.toInt ≠ 2 := lv_neT s_1_2 rfl
  have n_1_3 : y_1.toInt ≠ 3 := lv_neT s_1_3 rfl
  have n_1_4 : y_1.toInt ≠ 4 := lv_neT s_1_4 rfl
  have n_1_5 : y_1.toInt ≠ 5 := lv_neT s_1_5 rfl
  refine wp_tableOut (t := 70) d_Mo_count_1 (by omega) (by decide) ?_
  refine wp_bipush (v := (-2)) d_Mo_count_70 (by decide) ?_
  refine wp_ireturn d_Mo_count_72 rfl rfl ?_
  exact kb (fun z => s_1_0 (e_1.trans z)) (fun z => s_1_1 (e_1.trans z)) (fun z => s_1_2 (e_1.trans z)) (fun z => s_1_3 (e_1.trans z)) (fun z => s_1_4 (e_1.trans z)) (fun z => s_1_5 (e_1.trans z))
set_option maxRecDepth 4000 in
theorem c_Mo_taken {m x : Int32} (hD : 2 ≤ D) (hv : (0 ≤ m ∧ m ≤ I 0 - 1) → vp_in m 6) (kb : ¬ (0 ≤ x ∧ x ≤ 6) → Q (some (.int (-2))) (HM X I A L E)) (kn : (0 ≤ x ∧ x ≤ 6) → ¬ (0 ≤ m ∧ m ≤ I 0 - 1) → Q (some (.int (-11))) (HM X I A L E)) (kk : (0 ≤ x ∧ x ≤ 6) → (0 ≤ m ∧ m ≤ I 0 - 1) → (x = 0 ∨ A 5 m.toNatClampNeg = x ∨ (x = 1 ∧ A 5 m.toNatClampNeg = 4) ∨ (x = 2 ∧ A 5 m.toNatClampNeg = 5) ∨ (x = 3 ∧ A 5 m.toNatClampNeg = 6)) → Q (some (.int (A 5 m.toNatClampNeg))) (HM X I A L E)) (kc : (0 ≤ x ∧ x ≤ 6) → (0 ≤ m ∧ m ≤ I 0 - 1) → ¬ (x = 0 ∨ A 5 m.toNatClampNeg = x ∨ (x = 1 ∧ A 5 m.toNatClampNeg = 4) ∨ (x = 2 ∧ A 5 m.toNatClampNeg = 5) ∨ (x = 3 ∧ A 5 m.toNatClampNeg = 6)) → Q (some (.int (-12))) (HM X I A L E)) : px_W G D 0 0 m_Mo_taken 0 (px_ent 4 [.ref X.length, .int m, .int x]) [] (HM X I A L E) Q := by
  show px_W _ _ _ _ _ _ [some (.ref X.length), some (.int m), some (.int x), none] [] _ _
  refine wp_aload_n d_Mo_taken_0 rfl rfl rfl ?_
  refine wp_iload_n d_Mo_taken_1 rfl rfl ?_
  refine wp_iconst (v := 0) d_Mo_taken_2 rfl ?_
  refine wp_bipush (v := 6) d_Mo_taken_3 (by decide) ?_
  refine wp_callV (r := (R_12, T_12, 70)) (M' := m_Mo_in) (as := [_, _, _]) (D' := D - 1) (C1 := 0) (C2 := 0) (S1 := 0) (S2 := 0) d_Mo_taken_5 rfl w_1209 w_1211 w_15 hm_0 k_Mo_in (Nat.le_of_ble_eq_true rfl) rfl (Nat.le_of_ble_eq_true rfl) (by omega) rfl rfl ?_
  refine c_Mo_in (by omega)  (fun c_5 => ?_) (fun c_5 => ?_)
  · skip
    refine wp_if_ne (t := 14) d_Mo_taken_8 (by decide) (fun c_8 => ?_) (fun c_8 => (absurd c_8 (by decide)))
    refine wp_aload_n d_Mo_taken_14 rfl rfl rfl ?_
    refine wp_iload_n d_Mo_taken_15 rfl rfl ?_
    refine wp_callV (r := (R_12, T_12, 70)) (M' := m_Mo_isMan) (as := [_]) (D' := D - 1) (C1 := 0) (C2 := 0) (S1 := 0) (S2 := 0) d_Mo_taken_16 rfl w_1217 w_1219 w_16 hm_0 k_Mo_isMan (Nat.le_of_ble_eq_true rfl) rfl (Nat.le_of_ble_eq_true rfl) (by omega) rfl rfl ?_
    refine c_Mo_isMan (by omega)  (fun c_16 => ?_) (fun c_16 => ?_)
    · skip
      refine wp_if_ne (t := 25) d_Mo_taken_19 (by decide) (fun c_19 => ?_) (fun c_19 => (absurd c_19 (by decide)))
      refine wp_aload_n d_Mo_taken_25 rfl rfl rfl ?_
      refine gM_5 rfl d_Mo_taken_26 ?_
      refine wp_iload_n d_Mo_taken_29 rfl rfl ?_
      refine lM_5 d_Mo_taken_30 (hv c_16) ?_
      refine wp_istore_n (ls' := [_, _, _, _]) d_Mo_taken_31 rfl (by decide) rfl ?_
      refine wp_iload_n d_Mo_taken_32 rfl rfl ?_
      refine wp_if_eq (t := 72) d_Mo_taken_33 (by decide) (fun c_33 => ?_) (fun c_33 => ?_)
      · skip
        refine wp_iload_n d_Mo_taken_72 rfl rfl ?_
        refine wp_goto (t := 78) d_Mo_taken_73 (by decide) ?_
        refine wp_ireturn d_Mo_taken_78 rfl rfl ?_
        first
          | exact kk c_5 c_16 (Or.inl c_33)
          | exact kk c_5 c_16 (Or.inr (Or.inl c_38))
          | exact kk c_5 c_16 (Or.inr (Or.inr (Or.inl ⟨c_43, c_48⟩)))
          | exact kk c_5 c_16 (Or.inr (Or.inr (Or.inr (Or.inl ⟨c_53, c_58⟩))))
          | exact kk c_5 c_16 (Or.inr (Or.inr (Or.inr (Or.inr ⟨c_63, c_69⟩))))
      · skip
        refine wp_iload_n d_Mo_taken_36 rfl rfl ?_
        refine wp_iload_n d_Mo_taken_37 rfl rfl ?_
        refine wp_icmp_eq (t := 72) d_Mo_taken_38 (by decide) (fun c_38 => ?_) (fun c_38 => ?_)
        · skip
          refine wp_iload_n d_Mo_taken_72 rfl rfl ?_
          refine wp_goto (t := 78) d_Mo_taken_73 (by decide) ?_
          refine wp_ireturn d_Mo_taken_78 rfl rfl ?_
          first
            | exact kk c_5 c_16 (Or.inl c_33)
            | exact kk c_5 c_16 (Or.inr (Or.inl c_38))
            | exact kk c_5 c_16 (Or.inr (Or.inr (Or.inl ⟨c_43, c_48⟩)))
            | exact kk c_5 c_16 (Or.inr (Or.inr (Or.inr (Or.inl ⟨c_53, c_58⟩))))
            | exact kk c_5 c_16 (Or.inr (Or.inr (Or.inr (Or.inr ⟨c_63, c_69⟩))))
        · skip
          refine wp_iload_n d_Mo_taken_41 rfl rfl ?_
          refine wp_iconst (v := 1) d_Mo_taken_42 rfl ?_
          refine wp_icmp_ne (t := 51) d_Mo_taken_43 (by decide) (fun c_43 => ?_) (fun c_43 => ?_)
          · skip
            refine wp_iload_n d_Mo_taken_51 rfl rfl ?_
            refine wp_iconst (v := 2) d_Mo_taken_52 rfl ?_
            refine wp_icmp_ne (t := 61) d_Mo_taken_53 (by decide) (fun c_53 => ?_) (fun c_53 => ?_)
            · skip
              refine wp_iload_n d_Mo_taken_61 rfl rfl ?_
              refine wp_iconst (v := 3) d_Mo_taken_62 rfl ?_
              refine wp_icmp_ne (t := 76) d_Mo_taken_63 (by decide) (fun c_63 => ?_) (fun c_63 => ?_)
              · skip
                refine wp_bipush (v := (-12)) d_Mo_taken_76 (by decide) ?_
                refine wp_ireturn d_Mo_taken_78 rfl rfl ?_
                refine kc c_5 c_16 (fun z => ?_)
                rcases z with z | z | ⟨z, z2⟩ | ⟨z, z2⟩ | ⟨z, z2⟩
                · exact c_33 z
                · exact c_38 z
                · first | exact c_43 z | exact c_48 z2
                · first | exact c_53 z | exact c_58 z2
                · first | exact c_63 z | exact c_69 z2
              · skip
                refine wp_iload_n d_Mo_taken_66 rfl rfl ?_
                refine wp_bipush (v := 6) d_Mo_taken_67 (by decide) ?_
                refine wp_icmp_ne (t := 76) d_Mo_taken_69 (by decide) (fun c_69 => ?_) (fun c_69 => ?_)
                · skip
                  refine wp_bipush (v := (-12)) d_Mo_taken_76 (by decide) ?_
                  refine wp_ireturn d_Mo_taken_78 rfl rfl ?_
                  refine kc c_5 c_16 (fun z => ?_)
                  rcases z with z | z | ⟨z, z2⟩ | ⟨z, z2⟩ | ⟨z, z2⟩
                  · exact c_33 z
                  · exact c_38 z
                  · first | exact c_43 z | exact c_48 z2
                  · first | exact c_53 z | exact c_58 z2
                  · first | exact c_63 z | exact c_69 z2
                · skip
                  refine wp_iload_n d_Mo_taken_72 rfl rfl ?_
                  refine wp_goto (t := 78) d_Mo_taken_73 (by decide) ?_
                  refine wp_ireturn d_Mo_taken_78 rfl rfl ?_
                  first
                    | exact kk c_5 c_16 (Or.inl c_33)
                    | exact kk c_5 c_16 (Or.inr (Or.inl c_38))
                    | exact kk c_5 c_16 (Or.inr (Or.inr (Or.inl ⟨c_43, c_48⟩)))
                    | exact kk c_5 c_16 (Or.inr (Or.inr (Or.inr (Or.inl ⟨c_53, c_58⟩))))
                    | exact kk c_5 c_16 (Or.inr (Or.inr (Or.inr (Or.inr ⟨c_63, c_69⟩))))
            · skip
              refine wp_iload_n d_Mo_taken_56 rfl rfl ?_
              refine wp_iconst (v := 5) d_Mo_taken_57 rfl ?_
              refine wp_icmp_eq (t := 72) d_Mo_taken_58 (by decide) (fun c_58 => ?_) (fun c_58 => ?_)
              · skip
                refine wp_iload_n d_Mo_taken_72 rfl rfl ?_
                refine wp_goto (t := 78) d_Mo_taken_73 (by decide) ?_
                refine wp_ireturn d_Mo_taken_78 rfl rfl ?_
                first
                  | exact kk c_5 c_16 (Or.inl c_33)
                  | exact kk c_5 c_16 (Or.inr (Or.inl c_38))
                  | exact kk c_5 c_16 (Or.inr (Or.inr (Or.inl ⟨c_43, c_48⟩)))
                  | exact kk c_5 c_16 (Or.inr (Or.inr (Or.inr (Or.inl ⟨c_53, c_58⟩))))
                  | exact kk c_5 c_16 (Or.inr (Or.inr (Or.inr (Or.inr ⟨c_63, c_69⟩))))
              · skip
                refine wp_iload_n d_Mo_taken_61 rfl rfl ?_
                refine wp_iconst (v := 3) d_Mo_taken_62 rfl ?_
                refine wp_icmp_ne (t := 76) d_Mo_taken_63 (by decide) (fun c_63 => ?_) (fun c_63 => ?_)
                · skip
                  refine wp_bipush (v := (-12)) d_Mo_taken_76 (by decide) ?_
                  refine wp_ireturn d_Mo_taken_78 rfl rfl ?_
                  refine kc c_5 c_16 (fun z => ?_)
                  rcases z with z | z | ⟨z, z2⟩ | ⟨z, z2⟩ | ⟨z, z2⟩
                  · exact c_33 z
                  · exact c_38 z
                  · first | exact c_43 z | exact c_48 z2
                  · first | exact c_53 z | exact c_58 z2
                  · first | exact c_63 z | exact c_69 z2
                · skip
                  refine wp_iload_n d_Mo_taken_66 rfl rfl ?_
                  refine wp_bipush (v := 6) d_Mo_taken_67 (by decide) ?_
                  refine wp_icmp_ne (t := 76) d_Mo_taken_69 (by decide) (fun c_69 => ?_) (fun c_69 => ?_)
                  · skip
                    refine wp_bipush (v := (-12)) d_Mo_taken_76 (by decide) ?_
                    refine wp_ireturn d_Mo_taken_78 rfl rfl ?_
                    refine kc c_5 c_16 (fun z => ?_)
                    rcases z with z | z | ⟨z, z2⟩ | ⟨z, z2⟩ | ⟨z, z2⟩
                    · exact c_33 z
                    · exact c_38 z
                    · first | exact c_43 z | exact c_48 z2
                    · first | exact c_53 z | exact c_58 z2
                    · first | exact c_63 z | exact c_69 z2
                  · skip
                    refine wp_iload_n d_Mo_taken_72 rfl rfl ?_
                    refine wp_goto (t := 78) d_Mo_taken_73 (by decide) ?_
                    refine wp_ireturn d_Mo_taken_78 rfl rfl ?_
                    first
                      | exact kk c_5 c_16 (Or.inl c_33)
                      | exact kk c_5 c_16 (Or.inr (Or.inl c_38))
                      | exact kk c_5 c_16 (Or.inr (Or.inr (Or.inl ⟨c_43, c_48⟩)))
                      | exact kk c_5 c_16 (Or.inr (Or.inr (Or.inr (Or.inl ⟨c_53, c_58⟩))))
                      | exact kk c_5 c_16 (Or.inr (Or.inr (Or.inr (Or.inr ⟨c_63, c_69⟩))))
          · skip
            refine wp_iload_n d_Mo_taken_46 rfl rfl ?_
            refine wp_iconst (v := 4) d_Mo_taken_47 rfl ?_
            refine wp_icmp_eq (t := 72) d_Mo_taken_48 (by decide) (fun c_48 => ?_) (fun c_48 => ?_)
            · skip
              refine wp_iload_n d_Mo_taken_72 rfl rfl ?_
              refine wp_goto (t := 78) d_Mo_taken_73 (by decide) ?_
              refine wp_ireturn d_Mo_taken_78 rfl rfl ?_
              first
                | exact kk c_5 c_16 (Or.inl c_33)
                | exact kk c_5 c_16 (Or.inr (Or.inl c_38))
                | exact kk c_5 c_16 (Or.inr (Or.inr (Or.inl ⟨c_43, c_48⟩)))
                | exact kk c_5 c_16 (Or.inr (Or.inr (Or.inr (Or.inl ⟨c_53, c_58⟩))))
                | exact kk c_5 c_16 (Or.inr (Or.inr (Or.inr (Or.inr ⟨c_63, c_69⟩))))
            · skip
              refine wp_iload_n d_Mo_taken_51 rfl rfl ?_
              refine wp_iconst (v := 2) d_Mo_taken_52 rfl ?_
              refine wp_icmp_ne (t := 61) d_Mo_taken_53 (by decide) (fun c_53 => ?_) (fun c_53 => ?_)
              · skip
                refine wp_iload_n d_Mo_taken_61 rfl rfl ?_
                refine wp_iconst (v := 3) d_Mo_taken_62 rfl ?_
                refine wp_icmp_ne (t := 76) d_Mo_taken_63 (by decide) (fun c_63 => ?_) (fun c_63 => ?_)
                · skip
                  refine wp_bipush (v := (-12)) d_Mo_taken_76 (by decide) ?_
                  refine wp_ireturn d_Mo_taken_78 rfl rfl ?_
                  refine kc c_5 c_16 (fun z => ?_)
                  rcases z with z | z | ⟨z, z2⟩ | ⟨z, z2⟩ | ⟨z, z2⟩
                  · exact c_33 z
                  · exact c_38 z
                  · first | exact c_43 z | exact c_48 z2
                  · first | exact c_53 z | exact c_58 z2
                  · first | exact c_63 z | exact c_69 z2
                · skip
                  refine wp_iload_n d_Mo_taken_66 rfl rfl ?_
                  refine wp_bipush (v := 6) d_Mo_taken_67 (by decide) ?_
                  refine wp_icmp_ne (t := 76) d_Mo_taken_69 (by decide) (fun c_69 => ?_) (fun c_69 => ?_)
                  · skip
                    refine wp_bipush (v := (-12)) d_Mo_taken_76 (by decide) ?_
                    refine wp_ireturn d_Mo_taken_78 rfl rfl ?_
                    refine kc c_5 c_16 (fun z => ?_)
                    rcases z with z | z | ⟨z, z2⟩ | ⟨z, z2⟩ | ⟨z, z2⟩
                    · exact c_33 z
                    · exact c_38 z
                    · first | exact c_43 z | exact c_48 z2
                    · first | exact c_53 z | exact c_58 z2
                    · first | exact c_63 z | exact c_69 z2
                  · skip
                    refine wp_iload_n d_Mo_taken_72 rfl rfl ?_
                    refine wp_goto (t := 78) d_Mo_taken_73 (by decide) ?_
                    refine wp_ireturn d_Mo_taken_78 rfl rfl ?_
                    first
                      | exact kk c_5 c_16 (Or.inl c_33)
                      | exact kk c_5 c_16 (Or.inr (Or.inl c_38))
                      | exact kk c_5 c_16 (Or.inr (Or.inr (Or.inl ⟨c_43, c_48⟩)))
                      | exact kk c_5 c_16 (Or.inr (Or.inr (Or.inr (Or.inl ⟨c_53, c_58⟩))))
                      | exact kk c_5 c_16 (Or.inr (Or.inr (Or.inr (Or.inr ⟨c_63, c_69⟩))))
              · skip
                refine wp_iload_n d_Mo_taken_56 rfl rfl ?_
                refine wp_iconst (v := 5) d_Mo_taken_57 rfl ?_
                refine wp_icmp_eq (t := 72) d_Mo_taken_58 (by decide) (fun c_58 => ?_) (fun c_58 => ?_)
                · skip
                  refine wp_iload_n d_Mo_taken_72 rfl rfl ?_
                  refine wp_goto (t := 78) d_Mo_taken_73 (by decide) ?_
                  refine wp_ireturn d_Mo_taken_78 rfl rfl ?_
                  first
                    | exact kk c_5 c_16 (Or.inl c_33)
                    | exact kk c_5 c_16 (Or.inr (Or.inl c_38))
                    | exact kk c_5 c_16 (Or.inr (Or.inr (Or.inl ⟨c_43, c_48⟩)))
                    | exact kk c_5 c_16 (Or.inr (Or.inr (Or.inr (Or.inl ⟨c_53, c_58⟩))))
                    | exact kk c_5 c_16 (Or.inr (Or.inr (Or.inr (Or.inr ⟨c_63, c_69⟩))))
                · skip
                  refine wp_iload_n d_Mo_taken_61 rfl rfl ?_
                  refine wp_iconst (v := 3) d_Mo_taken_62 rfl ?_
                  refine wp_icmp_ne (t := 76) d_Mo_taken_63 (by decide) (fun c_63 => ?_) (fun c_63 => ?_)
                  · skip
                    refine wp_bipush (v := (-12)) d_Mo_taken_76 (by decide) ?_
                    refine wp_ireturn d_Mo_taken_78 rfl rfl ?_
                    refine kc c_5 c_16 (fun z => ?_)
                    rcases z with z | z | ⟨z, z2⟩ | ⟨z, z2⟩ | ⟨z, z2⟩
                    · exact c_33 z
                    · exact c_38 z
                    · first | exact c_43 z | exact c_48 z2
                    · first | exact c_53 z | exact c_58 z2
                    · first | exact c_63 z | exact c_69 z2
                  · skip
                    refine wp_iload_n d_Mo_taken_66 rfl rfl ?_
                    refine wp_bipush (v := 6) d_Mo_taken_67 (by decide) ?_
                    refine wp_icmp_ne (t := 76) d_Mo_taken_69 (by decide) (fun c_69 => ?_) (fun c_69 => ?_)
                    · skip
                      refine wp_bipush (v := (-12)) d_Mo_taken_76 (by decide) ?_
                      refine wp_ireturn d_Mo_taken_78 rfl rfl ?_
                      refine kc c_5 c_16 (fun z => ?_)
                      rcases z with z | z | ⟨z, z2⟩ | ⟨z, z2⟩ | ⟨z, z2⟩
                      · exact c_33 z
                      · exact c_38 z
                      · first | exact c_43 z | exact c_48 z2
                      · first | exact c_53 z | exact c_58 z2
                      · first | exact c_63 z | exact c_69 z2
                    · skip
                      refine wp_iload_n d_Mo_taken_72 rfl rfl ?_
                      refine wp_goto (t := 78) d_Mo_taken_73 (by decide) ?_
                      refine wp_ireturn d_Mo_taken_78 rfl rfl ?_
                      first
                        | exact kk c_5 c_16 (Or.inl c_33)
                        | exact kk c_5 c_16 (Or.inr (Or.inl c_38))
                        | exact kk c_5 c_16 (Or.inr (Or.inr (Or.inl ⟨c_43, c_48⟩)))
                        | exact kk c_5 c_16 (Or.inr (Or.inr (Or.inr (Or.inl ⟨c_53, c_58⟩))))
                        | exact kk c_5 c_16 (Or.inr (Or.inr (Or.inr (Or.inr ⟨c_63, c_69⟩))))
    · skip
      refine wp_if_ne (t := 25) d_Mo_taken_19 (by decide) (fun c_19 => (absurd c_19 (by decide))) (fun c_19 => ?_)
      refine wp_bipush (v := (-11)) d_Mo_taken_22 (by decide) ?_
      refine wp_ireturn d_Mo_taken_24 rfl rfl ?_
      exact kn c_5 c_16
  · skip
    refine wp_if_ne (t := 14) d_Mo_taken_8 (by decide) (fun c_8 => (absurd c_8 (by decide))) (fun c_8 => ?_)
    refine wp_bipush (v := (-2)) d_Mo_taken_11 (by decide) ?_
    refine wp_ireturn d_Mo_taken_13 rfl rfl ?_
    exact kb c_5
set_option maxRecDepth 4000 in
theorem l_Mo_slowest_7 {n b : Nat} {ln : Nat → Nat} {cl : List sp_Cl} (hD : 4 ≤ D) (hn0 : I 0 = nI n) (hw : mo_w I A n ln b cl) (hh : mo_h A) : ∀ (q p : Nat) (w most : Int32) (I1 : Nat → Int32) (A1 : Nat → Nat → Int32), p + q = n → ms [29] [28] I I1 A A1 → (∀ (I' : Nat → Int32) (A' : Nat → Nat → Int32), ms [29] [28] I I' A A' → Q (some (.int (sp_slw (A 5, A 6, A 9, ln, n, cl) (A 7) q p w most))) (HM X I' A' L E)) → px_W G D 0 0 m_Mo_slowest 7 [some (.ref X.length), some (.int w), some (.int most), some (.int (nI p)), none] [] (HM X I1 A1 L E) Q := by
  intro q
  induction q with
  | zero =>
    intro p w most I1 A1 hp hm hq
    have hn6 := hw.1
    have e0 : I1 0 = nI n := (hm.1 0 (by decide)).trans hn0
    refine wp_iload_n d_Mo_slowest_7 rfl rfl ?_
    refine wp_aload_n d_Mo_slowest_8 rfl rfl rfl ?_
    refine gM_0 rfl d_Mo_slowest_9 ?_
    refine wp_icmp_ge (t := 51) d_Mo_slowest_12 (by decide) (fun c_12 => ?_) (fun c_12 => absurd (by rw [e0]; exact nI_le (by omega) (by omega)) c_12)
    refine wp_iload_n d_Mo_slowest_51 rfl rfl ?_
    refine wp_ireturn d_Mo_slowest_52 rfl rfl ?_
    exact hq _ _ hm
  | succ q ih =>
    intro p w most I1 A1 hp hm hq
    have hn6 := hw.1
    have e0 : I1 0 = nI n := (hm.1 0 (by decide)).trans hn0
    have hw1 := hw.ms hm (by decide) (by decide)
    obtain ⟨hlm, hch⟩ := hw1.2.2.1 p (by omega)
    have a5 : A1 5 = A 5 := hm.2 5 (by decide)
    have a6 : A1 6 = A 6 := hm.2 6 (by decide)
    have a7 : A1 7 = A 7 := hm.2 7 (by decide)
    have a9 : A1 9 = A 9 := hm.2 9 (by decide)
    obtain ⟨hh0, hhl, ehh⟩ := hh (ln p) hlm
    have en : nI p + 1 = nI (p + 1) := nI_1 p
    have hv : sp_holds (A1 5 (ln p)) (A1 6 (ln p)) (A1 7 (ln p)) (A1 9 (4 * ln p + (A1 7 (ln p)).toNatClampNeg % 4)) (sp_pace (sp_fact (A1 5) (A1 6) (A1 7) (ln p) p) cl) = sp_hold (A 5, A 6, A 9, ln, n, cl) (A 7) p := by rw [a5, a6, a7, a9]; rfl
    refine wp_iload_n d_Mo_slowest_7 rfl rfl ?_
    refine wp_aload_n d_Mo_slowest_8 rfl rfl rfl ?_
    refine gM_0 rfl d_Mo_slowest_9 ?_
    refine wp_icmp_ge (t := 51) d_Mo_slowest_12 (by decide) (fun c_12 => absurd c_12 (by rw [e0]; exact nI_ge (by omega) (by omega))) (fun c_12 => ?_)
    refine wp_aload_n d_Mo_slowest_15 rfl rfl rfl ?_
    refine wp_iload_n d_Mo_slowest_16 rfl rfl ?_
    refine wp_callV (r := (R_12, T_12, 70)) (M' := m_Mo_holdsFor) (as := [_]) (D' := D - 1) (C1 := 0) (C2 := 0) (S1 := 0) (S2 := 0) d_Mo_slowest_17 rfl w_1329 w_1331 w_39 hm_0 k_Mo_holdsFor (Nat.le_of_ble_eq_true rfl) rfl (Nat.le_of_ble_eq_true rfl) (by omega) rfl rfl ?_
    refine c_Mo_holdsFor (by omega) hw1.2.2.2.2.1 hlm (by omega) hch hhl (by rw [a7]; exact ehh) (fun f => ?_)
    rw [hv]
    refine wp_istore (ls' := [_, _, _, _, _]) d_Mo_slowest_20 (by decide) rfl ?_
    refine wp_iload_n d_Mo_slowest_22 rfl rfl ?_
    refine wp_if_lt (t := 35) d_Mo_slowest_23 (by decide) (fun c_23 => ?_) (fun c_23 => ?_)
    · skip
      refine wp_aload_n d_Mo_slowest_35 rfl rfl rfl ?_
      refine gM_10 rfl d_Mo_slowest_36 ?_
      refine wp_iload_n d_Mo_slowest_39 rfl rfl ?_
      refine lM_10 d_Mo_slowest_40 (vp_in_nI (by omega) (by decide)) ?_
      refine wp_istore_n (ls' := [_, _, _, _, _]) d_Mo_slowest_41 rfl (by decide) rfl ?_
      refine wp_iload d_Mo_slowest_42 rfl ?_
      refine wp_istore_n (ls' := [_, _, _, _, _]) d_Mo_slowest_44 rfl (by decide) rfl ?_
      refine wp_iinc (v := _ + 1) (ls' := [_, _, _, _, _]) d_Mo_slowest_45 (by decide) rfl rfl rfl ?_
      refine wp_goto (t := 7) d_Mo_slowest_48 (by decide) ?_
      rw [en]
      refine wp_less (ls' := [some (.ref X.length), some (.int _), some (.int _), some (.int _), none]) ⟨rfl, rfl, rfl, rfl, trivial⟩ ?_
      refine ih (p + 1) _ _ _ _ (by omega) ((hm.i 29 (by decide) (nI p)).a 28 (by decide) f) (fun I2 A2 hm2 => ?_)
      have h2 := hq I2 A2 hm2
      first
        | (rw [show sp_slw (A 5, A 6, A 9, ln, n, cl) (A 7) (q + 1) p w most = _ from if_neg (fun z => absurd z.1 (Int32.not_le.mpr c_23))] at h2
           rw [show va_up A1 28 f 10 (nI p).toNatClampNeg = nI (ln p) from by rw [nI_clamp (by omega)]; exact hch]
           exact h2)
        | (rw [show sp_slw (A 5, A 6, A 9, ln, n, cl) (A 7) (q + 1) p w most = _ from if_neg (fun z => absurd z.2 (Int32.not_le.mpr c_29))] at h2
           rw [show va_up A1 28 f 10 (nI p).toNatClampNeg = nI (ln p) from by rw [nI_clamp (by omega)]; exact hch]
           exact h2)
        | (rw [show sp_slw (A 5, A 6, A 9, ln, n, cl) (A 7) (q + 1) p w most = _ from if_pos ⟨Int32.not_lt.mp c_23, Int32.not_lt.mp c_29⟩] at h2
           exact h2)
    · skip
      refine wp_iload d_Mo_slowest_26 rfl ?_
      refine wp_iload_n d_Mo_slowest_28 rfl rfl ?_
      refine wp_icmp_gt (t := 35) d_Mo_slowest_29 (by decide) (fun c_29 => ?_) (fun c_29 => ?_)
      · skip
        refine wp_aload_n d_Mo_slowest_35 rfl rfl rfl ?_
        refine gM_10 rfl d_Mo_slowest_36 ?_
        refine wp_iload_n d_Mo_slowest_39 rfl rfl ?_
        refine lM_10 d_Mo_slowest_40 (vp_in_nI (by omega) (by decide)) ?_
        refine wp_istore_n (ls' := [_, _, _, _, _]) d_Mo_slowest_41 rfl (by decide) rfl ?_
        refine wp_iload d_Mo_slowest_42 rfl ?_
        refine wp_istore_n (ls' := [_, _, _, _, _]) d_Mo_slowest_44 rfl (by decide) rfl ?_
        refine wp_iinc (v := _ + 1) (ls' := [_, _, _, _, _]) d_Mo_slowest_45 (by decide) rfl rfl rfl ?_
        refine wp_goto (t := 7) d_Mo_slowest_48 (by decide) ?_
        rw [en]
        refine wp_less (ls' := [some (.ref X.length), some (.int _), some (.int _), some (.int _), none]) ⟨rfl, rfl, rfl, rfl, trivial⟩ ?_
        refine ih (p + 1) _ _ _ _ (by omega) ((hm.i 29 (by decide) (nI p)).a 28 (by decide) f) (fun I2 A2 hm2 => ?_)
        have h2 := hq I2 A2 hm2
        first
          | (rw [show sp_slw (A 5, A 6, A 9, ln, n, cl) (A 7) (q + 1) p w most = _ from if_neg (fun z => absurd z.1 (Int32.not_le.mpr c_23))] at h2
             rw [show va_up A1 28 f 10 (nI p).toNatClampNeg = nI (ln p) from by rw [nI_clamp (by omega)]; exact hch]
             exact h2)
          | (rw [show sp_slw (A 5, A 6, A 9, ln, n, cl) (A 7) (q + 1) p w most = _ from if_neg (fun z => absurd z.2 (Int32.not_le.mpr c_29))] at h2
             rw [show va_up A1 28 f 10 (nI p).toNatClampNeg = nI (ln p) from by rw [nI_clamp (by omega)]; exact hch]
             exact h2)
          | (rw [show sp_slw (A 5, A 6, A 9, ln, n, cl) (A 7) (q + 1) p w most = _ from if_pos ⟨Int32.not_lt.mp c_23, Int32.not_lt.mp c_29⟩] at h2
             exact h2)
      · skip
        refine wp_goto (t := 45) d_Mo_slowest_32 (by decide) ?_
        refine wp_iinc (v := _ + 1) (ls' := [_, _, _, _, _]) d_Mo_slowest_45 (by decide) rfl rfl rfl ?_
        refine wp_goto (t := 7) d_Mo_slowest_48 (by decide) ?_
        rw [en]
        refine wp_less (ls' := [some (.ref X.length), some (.int _), some (.int _), some (.int _), none]) ⟨rfl, rfl, rfl, rfl, trivial⟩ ?_
        refine ih (p + 1) _ _ _ _ (by omega) ((hm.i 29 (by decide) (nI p)).a 28 (by decide) f) (fun I2 A2 hm2 => ?_)
        have h2 := hq I2 A2 hm2
        first
          | (rw [show sp_slw (A 5, A 6, A 9, ln, n, cl) (A 7) (q + 1) p w most = _ from if_neg (fun z => absurd z.1 (Int32.not_le.mpr c_23))] at h2
             rw [show va_up A1 28 f 10 (nI p).toNatClampNeg = nI (ln p) from by rw [nI_clamp (by omega)]; exact hch]
             exact h2)
          | (rw [show sp_slw (A 5, A 6, A 9, ln, n, cl) (A 7) (q + 1) p w most = _ from if_neg (fun z => absurd z.2 (Int32.not_le.mpr c_29))] at h2
             rw [show va_up A1 28 f 10 (nI p).toNatClampNeg = nI (ln p) from by rw [nI_clamp (by omega)]; exact hch]
             exact h2)
          | (rw [show sp_slw (A 5, A 6, A 9, ln, n, cl) (A 7) (q + 1) p w most = _ from if_pos ⟨Int32.not_lt.mp c_23, Int32.not_lt.mp c_29⟩] at h2
             exact h2)
set_option maxRecDepth 4000 in
theorem c_Mo_slowest {n b : Nat} {ln : Nat → Nat} {cl : List sp_Cl} (hD : 4 ≤ D) (hn0 : I 0 = nI n) (hw : mo_w I A n ln b cl) (hh : mo_h A) (k : ∀ (I' : Nat → Int32) (A' : Nat → Nat → Int32), ms [29] [28] I I' A A' → Q (some (.int (sp_slw (A 5, A 6, A 9, ln, n, cl) (A 7) n 0 (-5) 0))) (HM X I' A' L E)) : px_W G D 0 0 m_Mo_slowest 0 (px_ent 5 [.ref X.length]) [] (HM X I A L E) Q := by
  show px_W _ _ _ _ _ _ [some (.ref X.length), none, none, none, none] [] _ _
  refine wp_bipush (v := (-5)) d_Mo_slowest_0 (by decide) ?_
  refine wp_istore_n (ls' := [_, _, _, _, _]) d_Mo_slowest_2 rfl (by decide) rfl ?_
  refine wp_iconst (v := 0) d_Mo_slowest_3 rfl ?_
  refine wp_istore_n (ls' := [_, _, _, _, _]) d_Mo_slowest_4 rfl (by decide) rfl ?_
  refine wp_iconst (v := 0) d_Mo_slowest_5 rfl ?_
  refine wp_istore_n (ls' := [_, _, _, _, _]) d_Mo_slowest_6 rfl (by decide) rfl ?_
  exact l_Mo_slowest_7 hD hn0 hw hh n 0 (-5) 0 I A (by omega) ms.rf k
end MO7
