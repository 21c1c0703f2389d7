def sp_zr (f : Nat → Int64) (b n : Nat) : Nat → Int64 := fun j => if b ≤ j ∧ j < b + n then 0 else f j
theorem sp_zr_s {f : Nat → Int64} {b n : Nat} : vp_updL (sp_zr f b n) (b + n) 0 = sp_zr f b (n + 1) := by
  funext j
  show (if j = b + n then 0 else if b ≤ j ∧ j < b + n then 0 else f j) = if b ≤ j ∧ j < b + (n + 1) then 0 else f j
  by_cases h : j = b + n
  · rw [if_pos h, if_pos (by omega)]
  · rw [if_neg h]
    by_cases h2 : b ≤ j ∧ j < b + n
    · rw [if_pos h2, if_pos (by omega)]
    · rw [if_neg h2, if_neg (by omega)]
theorem vL_us {L : Nat → Nat → Int64} {k : Nat} : va_up L k (L k) = L := by
  funext j
  by_cases h : j = k
  · subst h; exact if_pos rfl
  · exact if_neg h
theorem sp_zr_0 {f : Nat → Int64} {b : Nat} : sp_zr f b 0 = f := by funext j; exact if_neg (by omega)
theorem va_cpy_s {f g : Nat → Int64} {a b n : Nat} : vp_updL (va_cpy f g a b n) (b + n) (f (a + n)) = va_cpy f g a b (n + 1) := by
  funext j
  show (if j = b + n then f (a + n) else if b ≤ j ∧ j < b + n then f (a + (j - b)) else g j) = if b ≤ j ∧ j < b + (n + 1) then f (a + (j - b)) else g j
  by_cases h : j = b + n
  · rw [if_pos h, if_pos (by omega), h, Nat.add_sub_cancel_left]
  · rw [if_neg h]
    by_cases h2 : b ≤ j ∧ j < b + n
    · rw [if_pos h2, if_pos (by omega)]
    · rw [if_neg h2, if_neg (by omega)]
theorem va_cpy_0 {f g : Nat → Int64} {a b : Nat} : va_cpy f g a b 0 = g := by funext j; exact if_neg (by omega)
def mo_i1 (A : Nat → Nat → Int32) (i : Nat) : Nat → Nat → Int32 := fun k => if k = 55 then sp_cp (A 5) (A 55) i else if k = 56 then sp_cp (A 6) (A 56) i else if k = 57 then sp_cp (A 7) (A 57) i else if k = 58 then sp_cp (A 8) (A 58) i else if k = 59 then sp_cp (A 10) (A 59) i else if k = 61 then sp_cp (A 43) (A 61) i else A k
theorem mo_i1_s {A : Nat → Nat → Int32} {i : Nat} : (va_up (va_up (va_up (va_up (va_up (va_up (mo_i1 A i) 55 (upd (sp_cp (A 5) (A 55) i) i (A 5 i))) 56 (upd (sp_cp (A 6) (A 56) i) i (A 6 i))) 57 (upd (sp_cp (A 7) (A 57) i) i (A 7 i))) 58 (upd (sp_cp (A 8) (A 58) i) i (A 8 i))) 59 (upd (sp_cp (A 10) (A 59) i) i (A 10 i))) 61 (upd (sp_cp (A 43) (A 61) i) i (A 43 i))) = mo_i1 A (i + 1) := by
  simp only [sp_cp_s]
  funext k
  simp only [va_up, mo_i1]
  by_cases h61 : k = 61
  · subst h61; rfl
  by_cases h59 : k = 59
  · subst h59; rfl
  by_cases h58 : k = 58
  · subst h58; rfl
  by_cases h57 : k = 57
  · subst h57; rfl
  by_cases h56 : k = 56
  · subst h56; rfl
  by_cases h55 : k = 55
  · subst h55; rfl
  simp only [if_neg h55, if_neg h56, if_neg h57, if_neg h58, if_neg h59, if_neg h61]
theorem mo_i1_0 {A : Nat → Nat → Int32} : mo_i1 A 0 = A := by
  funext k
  simp only [mo_i1, sp_cp_0]
  by_cases h55 : k = 55
  · subst h55; rfl
  by_cases h56 : k = 56
  · subst h56; rfl
  by_cases h57 : k = 57
  · subst h57; rfl
  by_cases h58 : k = 58
  · subst h58; rfl
  by_cases h59 : k = 59
  · subst h59; rfl
  by_cases h61 : k = 61
  · subst h61; rfl
  simp only [if_neg h55, if_neg h56, if_neg h57, if_neg h58, if_neg h59, if_neg h61]
def mo_i2 (A : Nat → Nat → Int32) (i : Nat) : Nat → Nat → Int32 := fun k => if k = 60 then sp_cp (A 9) (A 60) i else A k
theorem mo_i2_s {A : Nat → Nat → Int32} {i : Nat} : (va_up (mo_i2 A i) 60 (upd (sp_cp (A 9) (A 60) i) i (A 9 i))) = mo_i2 A (i + 1) := by
  simp only [sp_cp_s]
  funext k
  simp only [va_up, mo_i2]
  by_cases h60 : k = 60
  · subst h60; rfl
  simp only [if_neg h60]
theorem mo_i2_0 {A : Nat → Nat → Int32} : mo_i2 A 0 = A := by
  funext k
  simp only [mo_i2, sp_cp_0]
  by_cases h60 : k = 60
  · subst h60; rfl
  simp only [if_neg h60]
def mo_i3 (A : Nat → Nat → Int32) (i : Nat) : Nat → Nat → Int32 := fun k => if k = 62 then sp_cp (A 45) (A 62) i else if k = 63 then sp_cp (A 46) (A 63) i else A k
theorem mo_i3_s {A : Nat → Nat → Int32} {i : Nat} : (va_up (va_up (mo_i3 A i) 62 (upd (sp_cp (A 45) (A 62) i) i (A 45 i))) 63 (upd (sp_cp (A 46) (A 63) i) i (A 46 i))) = mo_i3 A (i + 1) := by
  simp only [sp_cp_s]
  funext k
  simp only [va_up, mo_i3]
  by_cases h63 : k = 63
  · subst h63; rfl
  by_cases h62 : k = 62
  · subst h62; rfl
  simp only [if_neg h62, if_neg h63]
theorem mo_i3_0 {A : Nat → Nat → Int32} : mo_i3 A 0 = A := by
  funext k
  simp only [mo_i3, sp_cp_0]
  by_cases h62 : k = 62
  · subst h62; rfl
  by_cases h63 : k = 63
  · subst h63; rfl
  simp only [if_neg h62, if_neg h63]
def mo_u1 (A : Nat → Nat → Int32) (i : Nat) : Nat → Nat → Int32 := fun k => if k = 5 then sp_cp (A 55) (A 5) i else if k = 6 then sp_cp (A 56) (A 6) i else if k = 7 then sp_cp (A 57) (A 7) i else if k = 8 then sp_cp (A 58) (A 8) i else if k = 10 then sp_cp (A 59) (A 10) i else if k = 43 then sp_cp (A 61) (A 43) i else A k
theorem mo_u1_s {A : Nat → Nat → Int32} {i : Nat} : (va_up (va_up (va_up (va_up (va_up (va_up (mo_u1 A i) 5 (upd (sp_cp (A 55) (A 5) i) i (A 55 i))) 6 (upd (sp_cp (A 56) (A 6) i) i (A 56 i))) 7 (upd (sp_cp (A 57) (A 7) i) i (A 57 i))) 8 (upd (sp_cp (A 58) (A 8) i) i (A 58 i))) 10 (upd (sp_cp (A 59) (A 10) i) i (A 59 i))) 43 (upd (sp_cp (A 61) (A 43) i) i (A 61 i))) = mo_u1 A (i + 1) := by
  simp only [sp_cp_s]
  funext k
  simp only [va_up, mo_u1]
  by_cases h43 : k = 43
  · subst h43; rfl
  by_cases h10 : k = 10
  · subst h10; rfl
  by_cases h8 : k = 8
  · subst h8; rfl
  by_cases h7 : k = 7
  · subst h7; rfl
  by_cases h6 : k = 6
  · subst h6; rfl
  by_cases h5 : k = 5
  · subst h5; rfl
  simp only [if_neg h5, if_neg h6, if_neg h7, if_neg h8, if_neg h10, if_neg h43]
theorem mo_u1_0 {A : Nat → Nat → Int32} : mo_u1 A 0 = A := by
  funext k
  simp only [mo_u1, sp_cp_0]
  by_cases h5 : k = 5
  · subst h5; rfl
  by_cases h6 : k = 6
  · subst h6; rfl
  by_cases h7 : k = 7
  · subst h7; rfl
  by_cases h8 : k = 8
  · subst h8; rfl
  by_cases h10 : k = 10
  · subst h10; rfl
  by_cases h43 : k = 43
  · subst h43; rfl
  simp only [if_neg h5, if_neg h6, if_neg h7, if_neg h8, if_neg h10, if_neg h43]
def mo_u2 (A : Nat → Nat → Int32) (i : Nat) : Nat → Nat → Int32 := fun k => if k = 9 then sp_cp (A 60) (A 9) i else A k
theorem mo_u2_s {A : Nat → Nat → Int32} {i : Nat} : (va_up (mo_u2 A i) 9 (upd (sp_cp (A 60) (A 9) i) i (A 60 i))) = mo_u2 A (i + 1) := by
  simp only [sp_cp_s]
  funext k
  simp only [va_up, mo_u2]
  by_cases h9 : k = 9
  · subst h9; rfl
  simp only [if_neg h9]
theorem mo_u2_0 {A : Nat → Nat → Int32} : mo_u2 A 0 = A := by
  funext k
  simp only [mo_u2, sp_cp_0]
  by_cases h9 : k = 9
  · subst h9; rfl
  simp only [if_neg h9]
def mo_u3 (A : Nat → Nat → Int32) (i : Nat) : Nat → Nat → Int32 := fun k => if k = 45 then sp_cp (A 62) (A 45) i else if k = 46 then sp_cp (A 63) (A 46) i else A k
theorem mo_u3_s {A : Nat → Nat → Int32} {i : Nat} : (va_up (va_up (mo_u3 A i) 45 (upd (sp_cp (A 62) (A 45) i) i (A 62 i))) 46 (upd (sp_cp (A 63) (A 46) i) i (A 63 i))) = mo_u3 A (i + 1) := by
  simp only [sp_cp_s]
  funext k
  simp only [va_up, mo_u3]
  by_cases h46 : k = 46
  · subst h46; rfl
  by_cases h45 : k = 45
  · subst h45; rfl
  simp only [if_neg h45, if_neg h46]
theorem mo_u3_0 {A : Nat → Nat → Int32} : mo_u3 A 0 = A := by
  funext k
  simp only [mo_u3, sp_cp_0]
  by_cases h45 : k = 45
  · subst h45; rfl
  by_cases h46 : k = 46
  · subst h46; rfl
  simp only [if_neg h45, if_neg h46]
section MO9
variable {G : px_G} {D : Nat} {X E : px_H} {I : Nat → Int32} {A : Nat → Nat → Int32} {L : Nat → Nat → Int64} {Q : Option Value → px_H → Prop}
set_option maxRecDepth 4000 in
theorem l_Mo_tape_69 {t : Nat} {s n : Int32} (ht : t < 6) (k : Q (some (.int 1)) (HM X I A (va_up L 68 (sp_zr (L 68) (60 * t) 60)) E)) : ∀ (q i : Nat), i + q = 60 → px_W G D 0 0 m_Mo_tape 69 [some (.ref X.length), some (.int (nI t)), some (.int s), some (.int n), some (.int (nI i))] [] (HM X I A (va_up L 68 (sp_zr (L 68) (60 * t) i)) E) Q := by
  intro q
  have e60 : (60 : Int32) * nI t = nI (60 * t) := pk_mul 60 t
  induction q with
  | zero =>
    intro i hi
    have hi6 : i = 60 := by omega
    subst hi6
    refine wp_iload d_Mo_tape_69 rfl ?_
    refine wp_bipush (v := 60) d_Mo_tape_71 (by decide) ?_
    refine wp_icmp_ge (t := 95) d_Mo_tape_73 (by decide) (fun c_73 => ?_) (fun c_73 => absurd (by decide) c_73)
    refine wp_iconst (v := 1) d_Mo_tape_95 rfl ?_
    refine wp_ireturn d_Mo_tape_96 rfl rfl ?_
    exact k
  | succ q ih =>
    intro i hi
    refine wp_iload d_Mo_tape_69 rfl ?_
    refine wp_bipush (v := 60) d_Mo_tape_71 (by decide) ?_
    refine wp_icmp_ge (t := 95) d_Mo_tape_73 (by decide) (fun c_73 => absurd c_73 (nI_ge (b := 60) (by omega) (by decide))) (fun c_73 => ?_)
    refine wp_aload_n d_Mo_tape_76 rfl rfl rfl ?_
    refine gM_68 rfl d_Mo_tape_77 ?_
    refine wp_bipush (v := 60) d_Mo_tape_80 (by decide) ?_
    refine wp_iload_n d_Mo_tape_82 rfl rfl ?_
    refine wp_imul d_Mo_tape_83 ?_
    refine wp_iload d_Mo_tape_84 rfl ?_
    refine wp_iadd d_Mo_tape_86 ?_
    refine wp_lconst (v := 0) d_Mo_tape_87 rfl ?_
    rw [e60, nI_add]
    refine sM_68 d_Mo_tape_88 (vp_in_nI (by omega) (by decide)) ?_
    refine wp_iinc (v := _ + 1) (ls' := [_, _, _, _, _]) d_Mo_tape_89 (by decide) rfl rfl rfl ?_
    refine wp_goto (t := 69) d_Mo_tape_92 (by decide) ?_
    rw [nI_clamp (by omega), show nI i + 1 = nI (i + 1) from nI_1 i]
    rw [bx_uu, show vp_updL (va_up L 68 (sp_zr (L 68) (60 * t) i) 68) (60 * t + i) 0 = sp_zr (L 68) (60 * t) (i + 1) from sp_zr_s]
    exact ih (i + 1) (by omega)
set_option maxRecDepth 4000 in
theorem c_Mo_tape {t s n : Int32} {tt : Nat} (hD : 2 ≤ D) (hT : (0 ≤ t ∧ t ≤ 5) → t = nI tt ∧ tt < 6) (kn : ¬ (0 ≤ t ∧ t ≤ 5) → Q (some (.int (-1))) (HM X I A L E)) (kb : (0 ≤ t ∧ t ≤ 5) → (¬ (-1 ≤ s ∧ s ≤ 4) ∨ (0 ≤ s ∧ 60 < n)) → Q (some (.int (-2))) (HM X I A L E)) (kz : (0 ≤ t ∧ t ≤ 5) → ¬ (¬ (-1 ≤ s ∧ s ≤ 4) ∨ (0 ≤ s ∧ 60 < n)) → (0 ≤ s ∧ n < 0) → Q (some (.int (-14))) (HM X I A L E)) (kk : (0 ≤ t ∧ t ≤ 5) → ¬ (¬ (-1 ≤ s ∧ s ≤ 4) ∨ (0 ≤ s ∧ 60 < n)) → ¬ (0 ≤ s ∧ n < 0) → Q (some (.int 1)) (HM X I (va_up (va_up A 66 (upd (A 66) tt s)) 67 (upd (A 67) tt (if s < 0 then 0 else n))) (va_up L 68 (sp_zr (L 68) (60 * tt) 60)) E)) : px_W G D 0 0 m_Mo_tape 0 (px_ent 5 [.ref X.length, .int t, .int s, .int n]) [] (HM X I A L E) Q := by
  show px_W _ _ _ _ _ _ [some (.ref X.length), some (.int t), some (.int s), some (.int n), none] [] _ _
  refine wp_aload_n d_Mo_tape_0 rfl rfl rfl ?_
  refine wp_iload_n d_Mo_tape_1 rfl rfl ?_
  refine wp_callV (r := (R_12, T_12, 70)) (M' := m_Mo_isTape) (as := [_]) (D' := D - 1) (C1 := 0) (C2 := 0) (S1 := 0) (S2 := 0) d_Mo_tape_2 rfl w_1507 w_1509 w_62 hm_0 k_Mo_isTape (Nat.le_of_ble_eq_true rfl) rfl (Nat.le_of_ble_eq_true rfl) (by omega) rfl rfl ?_
  refine c_Mo_isTape (by omega)  (fun c_2 => ?_) (fun c_2 => ?_)
  · skip
    refine wp_if_ne (t := 10) d_Mo_tape_5 (by decide) (fun c_5 => ?_) (fun c_5 => (absurd c_5 (by decide)))
    obtain ⟨rfl, htt⟩ := hT c_2
    refine wp_aload_n d_Mo_tape_10 rfl rfl rfl ?_
    refine wp_iload_n d_Mo_tape_11 rfl rfl ?_
    refine wp_iconst (v := (-1)) d_Mo_tape_12 rfl ?_
    refine wp_iconst (v := 4) d_Mo_tape_13 rfl ?_
    refine wp_callV (r := (R_12, T_12, 70)) (M' := m_Mo_in) (as := [_, _, _]) (D' := D - 1) (C1 := 0) (C2 := 0) (S1 := 0) (S2 := 0) d_Mo_tape_14 rfl w_1209 w_1211 w_15 hm_0 k_Mo_in (Nat.le_of_ble_eq_true rfl) rfl (Nat.le_of_ble_eq_true rfl) (by omega) rfl rfl ?_
    refine c_Mo_in (by omega)  (fun c_14 => ?_) (fun c_14 => ?_)
    · skip
      refine wp_if_eq (t := 30) d_Mo_tape_17 (by decide) (fun c_17 => (absurd c_17 (by decide))) (fun c_17 => ?_)
      refine wp_iload_n d_Mo_tape_20 rfl rfl ?_
      refine wp_if_lt (t := 33) d_Mo_tape_21 (by decide) (fun c_21 => ?_) (fun c_21 => ?_)
      · skip
        refine wp_iload_n d_Mo_tape_33 rfl rfl ?_
        refine wp_if_lt (t := 44) d_Mo_tape_34 (by decide) (fun c_34 => ?_) (fun c_34 => ?_)
        · skip
          refine wp_aload_n d_Mo_tape_44 rfl rfl rfl ?_
          refine gM_66 rfl d_Mo_tape_45 ?_
          refine wp_iload_n d_Mo_tape_48 rfl rfl ?_
          refine wp_iload_n d_Mo_tape_49 rfl rfl ?_
          refine sM_66 d_Mo_tape_50 (vp_in_nI (by omega) (by decide)) ?_
          refine wp_aload_n d_Mo_tape_51 rfl rfl rfl ?_
          refine gM_67 rfl d_Mo_tape_52 ?_
          refine wp_iload_n d_Mo_tape_55 rfl rfl ?_
          refine wp_iload_n d_Mo_tape_56 rfl rfl ?_
          refine wp_if_ge (t := 64) d_Mo_tape_57 (by decide) (fun c_57 => ?_) (fun c_57 => ?_)
          · skip
            refine wp_iload_n d_Mo_tape_64 rfl rfl ?_
            refine sM_67 d_Mo_tape_65 (vp_in_nI (by omega) (by decide)) ?_
            refine wp_iconst (v := 0) d_Mo_tape_66 rfl ?_
            refine wp_istore (ls' := [_, _, _, _, _]) d_Mo_tape_67 (by decide) rfl ?_
            rw [nI_clamp (n := tt) (by omega)]
            rw [show HM X I _ L E = HM X I _ (va_up L 68 (sp_zr (L 68) (60 * tt) 0)) E from by rw [sp_zr_0, vL_us]]
            refine l_Mo_tape_69 htt ?_ 60 0 (by omega)
            have hb : ¬ (¬ (-1 ≤ s ∧ s ≤ 4) ∨ (0 ≤ s ∧ 60 < n)) := fun z => z.elim (fun z => z c_14) (fun z => by first | exact absurd z.1 (Int32.not_le.mpr c_21) | exact absurd z.2 (Int32.not_lt.mpr c_27))
            have hz : ¬ (0 ≤ s ∧ n < 0) := fun z => by first | exact absurd z.1 (Int32.not_le.mpr c_34) | exact absurd z.2 (Int32.not_lt.mpr c_38)
            have k1 := kk c_2 hb hz
            first
              | (rw [show (if s < 0 then 0 else n) = n from if_neg c_57] at k1; exact k1)
              | (rw [show (if s < 0 then 0 else n) = n from if_neg (Int32.not_lt.mpr c_57)] at k1; exact k1)
              | (rw [show (if s < 0 then 0 else n) = 0 from if_pos c_57] at k1; exact k1)
              | (rw [show (if s < 0 then 0 else n) = 0 from if_pos (Int32.not_le.mp c_57)] at k1; exact k1)
          · skip
            refine wp_iconst (v := 0) d_Mo_tape_60 rfl ?_
            refine wp_goto (t := 65) d_Mo_tape_61 (by decide) ?_
            refine sM_67 d_Mo_tape_65 (vp_in_nI (by omega) (by decide)) ?_
            refine wp_iconst (v := 0) d_Mo_tape_66 rfl ?_
            refine wp_istore (ls' := [_, _, _, _, _]) d_Mo_tape_67 (by decide) rfl ?_
            rw [nI_clamp (n := tt) (by omega)]
            rw [show HM X I _ L E = HM X I _ (va_up L 68 (sp_zr (L 68) (60 * tt) 0)) E from by rw [sp_zr_0, vL_us]]
            refine l_Mo_tape_69 htt ?_ 60 0 (by omega)
            have hb : ¬ (¬ (-1 ≤ s ∧ s ≤ 4) ∨ (0 ≤ s ∧ 60 < n)) := fun z => z.elim (fun z => z c_14) (fun z => by first | exact absurd z.1 (Int32.not_le.mpr c_21) | exact absurd z.2 (Int32.not_lt.mpr c_27))
            have hz : ¬ (0 ≤ s ∧ n < 0) := fun z => by first | exact absurd z.1 (Int32.not_le.mpr c_34) | exact absurd z.2 (Int32.not_lt.mpr c_38)
            have k1 := kk c_2 hb hz
            first
              | (rw [show (if s < 0 then 0 else n) = n from if_neg c_57] at k1; exact k1)
              | (rw [show (if s < 0 then 0 else n) = n from if_neg (Int32.not_lt.mpr c_57)] at k1; exact k1)
              | (rw [show (if s < 0 then 0 else n) = 0 from if_pos c_57] at k1; exact k1)
              | (rw [show (if s < 0 then 0 else n) = 0 from if_pos (Int32.not_le.mp c_57)] at k1; exact k1)
        · skip
          refine wp_iload_n d_Mo_tape_37 rfl rfl ?_
          refine wp_if_ge (t := 44) d_Mo_tape_38 (by decide) (fun c_38 => ?_) (fun c_38 => ?_)
          · skip
            refine wp_aload_n d_Mo_tape_44 rfl rfl rfl ?_
            refine gM_66 rfl d_Mo_tape_45 ?_
            refine wp_iload_n d_Mo_tape_48 rfl rfl ?_
            refine wp_iload_n d_Mo_tape_49 rfl rfl ?_
            refine sM_66 d_Mo_tape_50 (vp_in_nI (by omega) (by decide)) ?_
            refine wp_aload_n d_Mo_tape_51 rfl rfl rfl ?_
            refine gM_67 rfl d_Mo_tape_52 ?_
            refine wp_iload_n d_Mo_tape_55 rfl rfl ?_
            refine wp_iload_n d_Mo_tape_56 rfl rfl ?_
            refine wp_if_ge (t := 64) d_Mo_tape_57 (by decide) (fun c_57 => ?_) (fun c_57 => ?_)
            · skip
              refine wp_iload_n d_Mo_tape_64 rfl rfl ?_
              refine sM_67 d_Mo_tape_65 (vp_in_nI (by omega) (by decide)) ?_
              refine wp_iconst (v := 0) d_Mo_tape_66 rfl ?_
              refine wp_istore (ls' := [_, _, _, _, _]) d_Mo_tape_67 (by decide) rfl ?_
              rw [nI_clamp (n := tt) (by omega)]
              rw [show HM X I _ L E = HM X I _ (va_up L 68 (sp_zr (L 68) (60 * tt) 0)) E from by rw [sp_zr_0, vL_us]]
              refine l_Mo_tape_69 htt ?_ 60 0 (by omega)
              have hb : ¬ (¬ (-1 ≤ s ∧ s ≤ 4) ∨ (0 ≤ s ∧ 60 < n)) := fun z => z.elim (fun z => z c_14) (fun z => by first | exact absurd z.1 (Int32.not_le.mpr c_21) | exact absurd z.2 (Int32.not_lt.mpr c_27))
              have hz : ¬ (0 ≤ s ∧ n < 0) := fun z => by first | exact absurd z.1 (Int32.not_le.mpr c_34) | exact absurd z.2 (Int32.not_lt.mpr c_38)
              have k1 := kk c_2 hb hz
              first
                | (rw [show (if s < 0 then 0 else n) = n from if_neg c_57] at k1; exact k1)
                | (rw [show (if s < 0 then 0 else n) = n from if_neg (Int32.not_lt.mpr c_57)] at k1; exact k1)
                | (rw [show (if s < 0 then 0 else n) = 0 from if_pos c_57] at k1; exact k1)
                | (rw [show (if s < 0 then 0 else n) = 0 from if_pos (Int32.not_le.mp c_57)] at k1; exact k1)
            · skip
              refine wp_iconst (v := 0) d_Mo_tape_60 rfl ?_
              refine wp_goto (t := 65) d_Mo_tape_61 (by decide) ?_
              refine sM_67 d_Mo_tape_65 (vp_in_nI (by omega) (by decide)) ?_
              refine wp_iconst (v := 0) d_Mo_tape_66 rfl ?_
              refine wp_istore (ls' := [_, _, _, _, _]) d_Mo_tape_67 (by decide) rfl ?_
              rw [nI_clamp (n := tt) (by omega)]
              rw [show HM X I _ L E = HM X I _ (va_up L 68 (sp_zr (L 68) (60 * tt) 0)) E from by rw [sp_zr_0, vL_us]]
              refine l_Mo_tape_69 htt ?_ 60 0 (by omega)
              have hb : ¬ (¬ (-1 ≤ s ∧ s ≤ 4) ∨ (0 ≤ s ∧ 60 < n)) := fun z => z.elim (fun z => z c_14) (fun z => by first | exact absurd z.1 (Int32.not_le.mpr c_21) | exact absurd z.2 (Int32.not_lt.mpr c_27))
              have hz : ¬ (0 ≤ s ∧ n < 0) := fun z => by first | exact absurd z.1 (Int32.not_le.mpr c_34) | exact absurd z.2 (Int32.not_lt.mpr c_38)
              have k1 := kk c_2 hb hz
              first
                | (rw [show (if s < 0 then 0 else n) = n from if_neg c_57] at k1; exact k1)
                | (rw [show (if s < 0 then 0 else n) = n from if_neg (Int32.not_lt.mpr c_57)] at k1; exact k1)
                | (rw [show (if s < 0 then 0 else n) = 0 from if_pos c_57] at k1; exact k1)
                | (rw [show (if s < 0 then 0 else n) = 0 from if_pos (Int32.not_le.mp c_57)] at k1; exact k1)
          · skip
            refine wp_bipush (v := (-14)) d_Mo_tape_41 (by decide) ?_
            refine wp_ireturn d_Mo_tape_43 rfl rfl ?_
            refine kz c_2 (fun z => z.elim (fun z => z c_14) (fun z => ?_)) ⟨Int32.not_lt.mp c_34, Int32.not_le.mp c_38⟩
            first | exact absurd z.1 (Int32.not_le.mpr c_21) | exact absurd z.2 (Int32.not_lt.mpr c_27)
      · skip
        refine wp_iload_n d_Mo_tape_24 rfl rfl ?_
        refine wp_bipush (v := 60) d_Mo_tape_25 (by decide) ?_
        refine wp_icmp_le (t := 33) d_Mo_tape_27 (by decide) (fun c_27 => ?_) (fun c_27 => ?_)
        · skip
          refine wp_iload_n d_Mo_tape_33 rfl rfl ?_
          refine wp_if_lt (t := 44) d_Mo_tape_34 (by decide) (fun c_34 => ?_) (fun c_34 => ?_)
          · skip
            refine wp_aload_n d_Mo_tape_44 rfl rfl rfl ?_
            refine gM_66 rfl d_Mo_tape_45 ?_
            refine wp_iload_n d_Mo_tape_48 rfl rfl ?_
            refine wp_iload_n d_Mo_tape_49 rfl rfl ?_
            refine sM_66 d_Mo_tape_50 (vp_in_nI (by omega) (by decide)) ?_
            refine wp_aload_n d_Mo_tape_51 rfl rfl rfl ?_
            refine gM_67 rfl d_Mo_tape_52 ?_
            refine wp_iload_n d_Mo_tape_55 rfl rfl ?_
            refine wp_iload_n d_Mo_tape_56 rfl rfl ?_
            refine wp_if_ge (t := 64) d_Mo_tape_57 (by decide) (fun c_57 => ?_) (fun c_57 => ?_)
            · skip
              refine wp_iload_n d_Mo_tape_64 rfl rfl ?_
              refine sM_67 d_Mo_tape_65 (vp_in_nI (by omega) (by decide)) ?_
              refine wp_iconst (v := 0) d_Mo_tape_66 rfl ?_
              refine wp_istore (ls' := [_, _, _, _, _]) d_Mo_tape_67 (by decide) rfl ?_
              rw [nI_clamp (n := tt) (by omega)]
              rw [show HM X I _ L E = HM X I _ (va_up L 68 (sp_zr (L 68) (60 * tt) 0)) E from by rw [sp_zr_0, vL_us]]
              refine l_Mo_tape_69 htt ?_ 60 0 (by omega)
              have hb : ¬ (¬ (-1 ≤ s ∧ s ≤ 4) ∨ (0 ≤ s ∧ 60 < n)) := fun z => z.elim (fun z => z c_14) (fun z => by first | exact absurd z.1 (Int32.not_le.mpr c_21) | exact absurd z.2 (Int32.not_lt.mpr c_27))
              have hz : ¬ (0 ≤ s ∧ n < 0) := fun z => by first | exact absurd z.1 (Int32.not_le.mpr c_34) | exact absurd z.2 (Int32.not_lt.mpr c_38)
              have k1 := kk c_2 hb hz
              first
                | (rw [show (if s < 0 then 0 else n) = n from if_neg c_57] at k1; exact k1)
                | (rw [show (if s < 0 then 0 else n) = n from if_neg (Int32.not_lt.mpr c_57)] at k1; exact k1)
                | (rw [show (if s < 0 then 0 else n) = 0 from if_pos c_57] at k1; exact k1)
                | (rw [show (if s < 0 then 0 else n) = 0 from if_pos (Int32.not_le.mp c_57)] at k1; exact k1)
            · skip
              refine wp_iconst (v := 0) d_Mo_tape_60 rfl ?_
              refine wp_goto (t := 65) d_Mo_tape_61 (by decide) ?_
              refine sM_67 d_Mo_tape_65 (vp_in_nI (by omega) (by decide)) ?_
              refine wp_iconst (v := 0) d_Mo_tape_66 rfl ?_
              refine wp_istore (ls' := [_, _, _, _, _]) d_Mo_tape_67 (by decide) rfl ?_
              rw [nI_clamp (n := tt) (by omega)]
              rw [show HM X I _ L E = HM X I _ (va_up L 68 (sp_zr (L 68) (60 * tt) 0)) E from by rw [sp_zr_0, vL_us]]
              refine l_Mo_tape_69 htt ?_ 60 0 (by omega)
              have hb : ¬ (¬ (-1 ≤ s ∧ s ≤ 4) ∨ (0 ≤ s ∧ 60 < n)) := fun z => z.elim (fun z => z c_14) (fun z => by first | exact absurd z.1 (Int32.not_le.mpr c_21) | exact absurd z.2 (Int32.not_lt.mpr c_27))
              have hz : ¬ (0 ≤ s ∧ n < 0) := fun z => by first | exact absurd z.1 (Int32.not_le.mpr c_34) | exact absurd z.2 (Int32.not_lt.mpr c_38)
              have k1 := kk c_2 hb hz
              first
                | (rw [show (if s < 0 then 0 else n) = n from if_neg c_57] at k1; exact k1)
                | (rw [show (if s < 0 then 0 else n) = n from if_neg (Int32.not_lt.mpr c_57)] at k1; exact k1)
                | (rw [show (if s < 0 then 0 else n) = 0 from if_pos c_57] at k1; exact k1)
                | (rw [show (if s < 0 then 0 else n) = 0 from if_pos (Int32.not_le.mp c_57)] at k1; exact k1)
          · skip
            refine wp_iload_n d_Mo_tape_37 rfl rfl ?_
            refine wp_if_ge (t := 44) d_Mo_tape_38 (by decide) (fun c_38 => ?_) (fun c_38 => ?_)
            · skip
              refine wp_aload_n d_Mo_tape_44 rfl rfl rfl ?_
              refine gM_66 rfl d_Mo_tape_45 ?_
              refine wp_iload_n d_Mo_tape_48 rfl rfl ?_
              refine wp_iload_n d_Mo_tape_49 rfl rfl ?_
              refine sM_66 d_Mo_tape_50 (vp_in_nI (by omega) (by decide)) ?_
              refine wp_aload_n d_Mo_tape_51 rfl rfl rfl ?_
              refine gM_67 rfl d_Mo_tape_52 ?_
              refine wp_iload_n d_Mo_tape_55 rfl rfl ?_
              refine wp_iload_n d_Mo_tape_56 rfl rfl ?_
              refine wp_if_ge (t := 64) d_Mo_tape_57 (by decide) (fun c_57 => ?_) (fun c_57 => ?_)
              · skip
                refine wp_iload_n d_Mo_tape_64 rfl rfl ?_
                refine sM_67 d_Mo_tape_65 (vp_in_nI (by omega) (by decide)) ?_
                refine wp_iconst (v := 0) d_Mo_tape_66 rfl ?_
                refine wp_istore (ls' := [_, _, _, _, _]) d_Mo_tape_67 (by decide) rfl ?_
                rw [nI_clamp (n := tt) (by omega)]
                rw [show HM X I _ L E = HM X I _ (va_up L 68 (sp_zr (L 68) (60 * tt) 0)) E from by rw [sp_zr_0, vL_us]]
                refine l_Mo_tape_69 htt ?_ 60 0 (by omega)
                have hb : ¬ (¬ (-1 ≤ s ∧ s ≤ 4) ∨ (0 ≤ s ∧ 60 < n)) := fun z => z.elim (fun z => z c_14) (fun z => by first | exact absurd z.1 (Int32.not_le.mpr c_21) | exact absurd z.2 (Int32.not_lt.mpr c_27))
                have hz : ¬ (0 ≤ s ∧ n < 0) := fun z => by first | exact absurd z.1 (Int32.not_le.mpr c_34) | exact absurd z.2 (Int32.not_lt.mpr c_38)
                have k1 := kk c_2 hb hz
                first
                  | (rw [show (if s < 0 then 0 else n) = n from if_neg c_57] at k1; exact k1)
                  | (rw [show (if s < 0 then 0 else n) = n from if_neg (Int32.not_lt.mpr c_57)] at k1; exact k1)
                  | (rw [show (if s < 0 then 0 else n) = 0 from if_pos c_57] at k1; exact k1)
                  | (rw [show (if s < 0 then 0 else n) = 0 from if_pos (Int32.not_le.mp c_57)] at k1; exact k1)
              · skip
                refine wp_iconst (v := 0) d_Mo_tape_60 rfl ?_
                refine wp_goto (t := 65) d_Mo_tape_61 (by decide) ?_
                refine sM_67 d_Mo_tape_65 (vp_in_nI (by omega) (by decide)) ?_
                refine wp_iconst (v := 0) d_Mo_tape_66 rfl ?_
                refine wp_istore (ls' := [_, _, _, _, _]) d_Mo_tape_67 (by decide) rfl ?_
                rw [nI_clamp (n := tt) (by omega)]
                rw [show HM X I _ L E = HM X I _ (va_up L 68 (sp_zr (L 68) (60 * tt) 0)) E from by rw [sp_zr_0, vL_us]]
                refine l_Mo_tape_69 htt ?_ 60 0 (by omega)
                have hb : ¬ (¬ (-1 ≤ s ∧ s ≤ 4) ∨ (0 ≤ s ∧ 60 < n)) := fun z => z.elim (fun z => z c_14) (fun z => by first | exact absurd z.1 (Int32.not_le.mpr c_21) | exact absurd z.2 (Int32.not_lt.mpr c_27))
                have hz : ¬ (0 ≤ s ∧ n < 0) := fun z => by first | exact absurd z.1 (Int32.not_le.mpr c_34) | exact absurd z.2 (Int32.not_lt.mpr c_38)
                have k1 := kk c_2 hb hz
                first
                  | (rw [show (if s < 0 then 0 else n) = n from if_neg c_57] at k1; exact k1)
                  | (rw [show (if s < 0 then 0 else n) = n from if_neg (Int32.not_lt.mpr c_57)] at k1; exact k1)
                  | (rw [show (if s < 0 then 0 else n) = 0 from if_pos c_57] at k1; exact k1)
                  | (rw [show (if s < 0 then 0 else n) = 0 from if_pos (Int32.not_le.mp c_57)] at k1; exact k1)
            · skip
              refine wp_bipush (v := (-14)) d_Mo_tape_41 (by decide) ?_
              refine wp_ireturn d_Mo_tape_43 rfl rfl ?_
              refine kz c_2 (fun z => z.elim (fun z => z c_14) (fun z => ?_)) ⟨Int32.not_lt.mp c_34, Int32.not_le.mp c_38⟩
              first | exact absurd z.1 (Int32.not_le.mpr c_21) | exact absurd z.2 (Int32.not_lt.mpr c_27)
        · skip
          refine wp_bipush (v := (-2)) d_Mo_tape_30 (by decide) ?_
          refine wp_ireturn d_Mo_tape_32 rfl rfl ?_
          first | exact kb c_2 (Or.inl c_14) | exact kb c_2 (Or.inr ⟨Int32.not_lt.mp c_21, Int32.not_le.mp c_27⟩)
    · skip
      refine wp_if_eq (t := 30) d_Mo_tape_17 (by decide) (fun c_17 => ?_) (fun c_17 => (absurd c_17 (by decide)))
      refine wp_bipush (v := (-2)) d_Mo_tape_30 (by decide) ?_
      refine wp_ireturn d_Mo_tape_32 rfl rfl ?_
      first | exact kb c_2 (Or.inl c_14) | exact kb c_2 (Or.inr ⟨Int32.not_lt.mp c_21, Int32.not_le.mp c_27⟩)
  · skip
    refine wp_if_ne (t := 10) d_Mo_tape_5 (by decide) (fun c_5 => (absurd c_5 (by decide))) (fun c_5 => ?_)
    refine wp_iconst (v := (-1)) d_Mo_tape_8 rfl ?_
    refine wp_ireturn d_Mo_tape_9 rfl rfl ?_
    exact kn c_2
set_option maxRecDepth 4000 in
theorem c_Mo_item {t i : Int32} {z : Int64} {tt : Nat} (hD : 2 ≤ D) (hT : (0 ≤ t ∧ t ≤ 5) → t = nI tt ∧ tt < 6) (hI : (0 ≤ t ∧ t ≤ 5) → (0 ≤ i ∧ i ≤ A 67 tt - 1) → ∃ ii, ii < 60 ∧ i = nI ii) (kn : ¬ (0 ≤ t ∧ t ≤ 5) → Q (some (.int (-1))) (HM X I A L E)) (k0 : (0 ≤ t ∧ t ≤ 5) → A 66 tt < 0 → Q (some (.int (-11))) (HM X I A L E)) (kp : (0 ≤ t ∧ t ≤ 5) → ¬ A 66 tt < 0 → ¬ (0 ≤ i ∧ i ≤ A 67 tt - 1) → Q (some (.int (-13))) (HM X I A L E)) (kk : (0 ≤ t ∧ t ≤ 5) → ¬ A 66 tt < 0 → ∀ ii, ii < 60 → i = nI ii → (0 ≤ i ∧ i ≤ A 67 tt - 1) → Q (some (.int 1)) (HM X I A (va_up L 68 (vp_updL (L 68) (60 * tt + ii) (sp_nrw (A 66 tt) z))) E)) : px_W G D 0 0 m_Mo_item 0 (px_ent 5 [.ref X.length, .int t, .int i, .long z]) [] (HM X I A L E) Q := by
  show px_W _ _ _ _ _ _ [some (.ref X.length), some (.int t), some (.int i), some (.long z), none] [] _ _
  refine wp_aload_n d_Mo_item_0 rfl rfl rfl ?_
  refine wp_iload_n d_Mo_item_1 rfl rfl ?_
  refine wp_callV (r := (R_12, T_12, 70)) (M' := m_Mo_isTape) (as := [_]) (D' := D - 1) (C1 := 0) (C2 := 0) (S1 := 0) (S2 := 0) d_Mo_item_2 rfl w_1507 w_1509 w_62 hm_0 k_Mo_isTape (Nat.le_of_ble_eq_true rfl) rfl (Nat.le_of_ble_eq_true rfl) (by omega) rfl rfl ?_
  refine c_Mo_isTape (by omega)  (fun c_2 => ?_) (fun c_2 => ?_)
  · skip
    refine wp_if_ne (t := 10) d_Mo_item_5 (by decide) (fun c_5 => ?_) (fun c_5 => (absurd c_5 (by decide)))
    obtain ⟨rfl, htt⟩ := hT c_2
    refine wp_aload_n d_Mo_item_10 rfl rfl rfl ?_
    refine gM_66 rfl d_Mo_item_11 ?_
    refine wp_iload_n d_Mo_item_14 rfl rfl ?_
    refine lM_66 d_Mo_item_15 (vp_in_nI (by omega) (by decide)) ?_
    rw [nI_clamp (n := tt) (by omega)]
    refine wp_if_ge (t := 22) d_Mo_item_16 (by decide) (fun c_16 => ?_) (fun c_16 => ?_)
    · skip
      refine wp_aload_n d_Mo_item_22 rfl rfl rfl ?_
      refine wp_iload_n d_Mo_item_23 rfl rfl ?_
      refine wp_iconst (v := 0) d_Mo_item_24 rfl ?_
      refine wp_aload_n d_Mo_item_25 rfl rfl rfl ?_
      refine gM_67 rfl d_Mo_item_26 ?_
      refine wp_iload_n d_Mo_item_29 rfl rfl ?_
      refine lM_67 d_Mo_item_30 (vp_in_nI (by omega) (by decide)) ?_
      rw [nI_clamp (n := tt) (by omega)]
      refine wp_iconst (v := 1) d_Mo_item_31 rfl ?_
      refine wp_isub d_Mo_item_32 ?_
      refine wp_callV (r := (R_12, T_12, 70)) (M' := m_Mo_in) (as := [_, _, _]) (D' := D - 1) (C1 := 0) (C2 := 0) (S1 := 0) (S2 := 0) d_Mo_item_33 rfl w_1209 w_1211 w_15 hm_0 k_Mo_in (Nat.le_of_ble_eq_true rfl) rfl (Nat.le_of_ble_eq_true rfl) (by omega) rfl rfl ?_
      refine c_Mo_in (by omega)  (fun c_33 => ?_) (fun c_33 => ?_)
      · skip
        refine wp_if_ne (t := 42) d_Mo_item_36 (by decide) (fun c_36 => ?_) (fun c_36 => (absurd c_36 (by decide)))
        obtain ⟨ii, hii, rfl⟩ := hI c_2 c_33
        have e60 : (60 : Int32) * nI tt = nI (60 * tt) := pk_mul 60 tt
        refine wp_aload_n d_Mo_item_42 rfl rfl rfl ?_
        refine gM_68 rfl d_Mo_item_43 ?_
        refine wp_bipush (v := 60) d_Mo_item_46 (by decide) ?_
        refine wp_iload_n d_Mo_item_48 rfl rfl ?_
        refine wp_imul d_Mo_item_49 ?_
        refine wp_iload_n d_Mo_item_50 rfl rfl ?_
        refine wp_iadd d_Mo_item_51 ?_
        rw [e60, nI_add]
        refine wp_aload_n d_Mo_item_52 rfl rfl rfl ?_
        refine wp_aload_n d_Mo_item_53 rfl rfl rfl ?_
        refine gM_66 rfl d_Mo_item_54 ?_
        refine wp_iload_n d_Mo_item_57 rfl rfl ?_
        refine lM_66 d_Mo_item_58 (vp_in_nI (by omega) (by decide)) ?_
        rw [nI_clamp (n := tt) (by omega)]
        refine wp_lload_n d_Mo_item_59 rfl rfl ?_
        refine wp_callV (r := (R_12, T_12, 70)) (M' := m_Mo_narrow) (as := [_, _]) (D' := D - 1) (C1 := 0) (C2 := 0) (S1 := 0) (S2 := 0) d_Mo_item_60 rfl w_1575 w_1577 w_71 hm_0 k_Mo_narrow (Nat.le_of_ble_eq_true rfl) rfl (Nat.le_of_ble_eq_true rfl) (by omega) rfl rfl ?_
        refine c_Mo_narrow (by omega)  ?_
        refine sM_68 d_Mo_item_63 (vp_in_nI (by omega) (by decide)) ?_
        refine wp_iconst (v := 1) d_Mo_item_64 rfl ?_
        refine wp_ireturn d_Mo_item_65 rfl rfl ?_
        rw [nI_clamp (by omega)]
        exact kk c_2 (Int32.not_lt.mpr c_16) ii hii rfl c_33
      · skip
        refine wp_if_ne (t := 42) d_Mo_item_36 (by decide) (fun c_36 => (absurd c_36 (by decide))) (fun c_36 => ?_)
        refine wp_bipush (v := (-13)) d_Mo_item_39 (by decide) ?_
        refine wp_ireturn d_Mo_item_41 rfl rfl ?_
        exact kp c_2 (Int32.not_lt.mpr c_16) c_33
    · skip
      refine wp_bipush (v := (-11)) d_Mo_item_19 (by decide) ?_
      refine wp_ireturn d_Mo_item_21 rfl rfl ?_
      exact k0 c_2 (Int32.not_le.mp c_16)
  · skip
    refine wp_if_ne (t := 10) d_Mo_item_5 (by decide) (fun c_5 => (absurd c_5 (by decide))) (fun c_5 => ?_)
    refine wp_iconst (v := (-1)) d_Mo_item_8 rfl ?_
    refine wp_ireturn d_Mo_item_9 rfl rfl ?_
    exact kn c_2
set_option maxRecDepth 4000 in
theorem c_Mo_read {t i : Int32} {tt : Nat} (hD : 2 ≤ D) (hT : (0 ≤ t ∧ t ≤ 5) → t = nI tt ∧ tt < 6) (hI : (0 ≤ t ∧ t ≤ 5) → (0 ≤ i ∧ i ≤ A 67 tt - 1) → ∃ ii, ii < 60 ∧ i = nI ii) (kn : ¬ ((0 ≤ t ∧ t ≤ 5) ∧ ¬ A 66 tt < 0 ∧ (0 ≤ i ∧ i ≤ A 67 tt - 1)) → Q (some (.long (-9223372036854775808))) (HM X I A L E)) (kk : (0 ≤ t ∧ t ≤ 5) → ¬ A 66 tt < 0 → ∀ ii, ii < 60 → i = nI ii → (0 ≤ i ∧ i ≤ A 67 tt - 1) → Q (some (.long (L 68 (60 * tt + ii)))) (HM X I A L E)) : px_W G D 0 0 m_Mo_read 0 (px_ent 3 [.ref X.length, .int t, .int i]) [] (HM X I A L E) Q := by
  show px_W _ _ _ _ _ _ [some (.ref X.length), some (.int t), some (.int i)] [] _ _
  refine wp_aload_n d_Mo_read_0 rfl rfl rfl ?_
  refine wp_iload_n d_Mo_read_1 rfl rfl ?_
  refine wp_callV (r := (R_12, T_12, 70)) (M' := m_Mo_isTape) (as := [_]) (D' := D - 1) (C1 := 0) (C2 := 0) (S1 := 0) (S2 := 0) d_Mo_read_2 rfl w_1507 w_1509 w_62 hm_0 k_Mo_isTape (Nat.le_of_ble_eq_true rfl) rfl (Nat.le_of_ble_eq_true rfl) (by omega) rfl rfl ?_
  refine c_Mo_isTape (by omega)  (fun c_2 => ?_) (fun c_2 => ?_)
  · skip
    refine wp_if_eq (t := 34) d_Mo_read_5 (by decide) (fun c_5 => (absurd c_5 (by decide))) (fun c_5 => ?_)
    obtain ⟨rfl, htt⟩ := hT c_2
    refine wp_aload_n d_Mo_read_8 rfl rfl rfl ?_
    refine gM_66 rfl d_Mo_read_9 ?_
    refine wp_iload_n d_Mo_read_12 rfl rfl ?_
    refine lM_66 d_Mo_read_13 (vp_in_nI (by omega) (by decide)) ?_
    rw [nI_clamp (n := tt) (by omega)]
    refine wp_if_lt (t := 34) d_Mo_read_14 (by decide) (fun c_14 => ?_) (fun c_14 => ?_)
    · skip
      refine wp_ldc2 d_Mo_read_34 w_1482 ?_
      refine wp_goto (t := 51) d_Mo_read_37 (by decide) ?_
      refine wp_lreturn d_Mo_read_51 rfl ?_
      first
        | (rw [nI_clamp (by omega)]; exact kk c_2 (by assumption) ii hii rfl c_28)
        | exact kn (fun z => c_2 z.1)
        | exact kn (fun z => z.2.1 c_14)
        | exact kn (fun z => c_28 z.2.2)
    · skip
      refine wp_aload_n d_Mo_read_17 rfl rfl rfl ?_
      refine wp_iload_n d_Mo_read_18 rfl rfl ?_
      refine wp_iconst (v := 0) d_Mo_read_19 rfl ?_
      refine wp_aload_n d_Mo_read_20 rfl rfl rfl ?_
      refine gM_67 rfl d_Mo_read_21 ?_
      refine wp_iload_n d_Mo_read_24 rfl rfl ?_
      refine lM_67 d_Mo_read_25 (vp_in_nI (by omega) (by decide)) ?_
      rw [nI_clamp (n := tt) (by omega)]
      refine wp_iconst (v := 1) d_Mo_read_26 rfl ?_
      refine wp_isub d_Mo_read_27 ?_
      refine wp_callV (r := (R_12, T_12, 70)) (M' := m_Mo_in) (as := [_, _, _]) (D' := D - 1) (C1 := 0) (C2 := 0) (S1 := 0) (S2 := 0) d_Mo_read_28 rfl w_1209 w_1211 w_15 hm_0 k_Mo_in (Nat.le_of_ble_eq_true rfl) rfl (Nat.le_of_ble_eq_true rfl) (by omega) rfl rfl ?_
      refine c_Mo_in (by omega)  (fun c_28 => ?_) (fun c_28 => ?_)
      · skip
        refine wp_if_ne (t := 40) d_Mo_read_31 (by decide) (fun c_31 => ?_) (fun c_31 => (absurd c_31 (by decide)))
        obtain ⟨ii, hii, rfl⟩ := hI c_2 c_28
        have e60 : (60 : Int32) * nI tt = nI (60 * tt) := pk_mul 60 tt
        refine wp_aload_n d_Mo_read_40 rfl rfl rfl ?_
        refine gM_68 rfl d_Mo_read_41 ?_
        refine wp_bipush (v := 60) d_Mo_read_44 (by decide) ?_
        refine wp_iload_n d_Mo_read_46 rfl rfl ?_
        refine wp_imul d_Mo_read_47 ?_
        refine wp_iload_n d_Mo_read_48 rfl rfl ?_
        refine wp_iadd d_Mo_read_49 ?_
        rw [e60, nI_add]
        refine lM_68 d_Mo_read_50 (vp_in_nI (by omega) (by decide)) ?_
        refine wp_lreturn d_Mo_read_51 rfl ?_
        first
          | (rw [nI_clamp (by omega)]; exact kk c_2 (by assumption) ii hii rfl c_28)
          | exact kn (fun z => c_2 z.1)
          | exact kn (fun z => z.2.1 c_14)
          | exact kn (fun z => c_28 z.2.2)
      · skip
        refine wp_if_ne (t := 40) d_Mo_read_31 (by decide) (fun c_31 => (absurd c_31 (by decide))) (fun c_31 => ?_)
        refine wp_ldc2 d_Mo_read_34 w_1482 ?_
        refine wp_goto (t := 51) d_Mo_read_37 (by decide) ?_
        refine wp_lreturn d_Mo_read_51 rfl ?_
        first
          | (rw [nI_clamp (by omega)]; exact kk c_2 (by assumption) ii hii rfl c_28)
          | exact kn (fun z => c_2 z.1)
          | exact kn (fun z => z.2.1 c_14)
          | exact kn (fun z => c_28 z.2.2)
  · skip
    refine wp_if_eq (t := 34) d_Mo_read_5 (by decide) (fun c_5 => ?_) (fun c_5 => (absurd c_5 (by decide)))
    refine wp_ldc2 d_Mo_read_34 w_1482 ?_
    refine wp_goto (t := 51) d_Mo_read_37 (by decide) ?_
    refine wp_lreturn d_Mo_read_51 rfl ?_
    first
      | (rw [nI_clamp (by omega)]; exact kk c_2 (by assumption) ii hii rfl c_28)
      | exact kn (fun z => c_2 z.1)
      | exact kn (fun z => z.2.1 c_14)
      | exact kn (fun z => c_28 z.2.2)
set_option maxRecDepth 4000 in
theorem l_Mo_shift_141 {tt ii oo jj nn : Nat} (htt : tt < 6) (hoo : oo < 6) (hi : ii + nn ≤ 60) (hj : jj + nn ≤ 60) {f g : Nat → Int64} (h69 : ∀ q, q < nn → g q = f (60 * tt + ii + q)) (k : Q (some (.int (nI nn))) (HM X I A (va_up (va_up L 69 g) 68 (va_cpy f f (60 * tt + ii) (60 * oo + jj) nn)) E)) : ∀ (q q0 : Nat), q0 + q = nn → px_W G D 0 0 m_Mo_shift 141 [some (.ref X.length), some (.int (nI tt)), some (.int (nI ii)), some (.int (nI oo)), some (.int (nI jj)), some (.int (nI nn)), some (.int (nI q0))] [] (HM X I A (va_up (va_up L 69 g) 68 (va_cpy f f (60 * tt + ii) (60 * oo + jj) q0)) E) Q := by
  intro q
  have e60 : (60 : Int32) * nI oo = nI (60 * oo) := pk_mul 60 oo
  induction q with
  | zero =>
    intro q0 hq
    have hq6 : q0 = nn := by omega
    subst hq6
    refine wp_iload d_Mo_shift_141 rfl ?_
    refine wp_iload d_Mo_shift_143 rfl ?_
    refine wp_icmp_ge (t := 176) d_Mo_shift_145 (by decide) (fun c_145 => ?_) (fun c_145 => absurd (nI_le (Nat.le_refl _) (by omega)) c_145)
    refine wp_iload d_Mo_shift_176 rfl ?_
    refine wp_ireturn d_Mo_shift_178 rfl rfl ?_
    exact k
  | succ q ih =>
    intro q0 hq
    refine wp_iload d_Mo_shift_141 rfl ?_
    refine wp_iload d_Mo_shift_143 rfl ?_
    refine wp_icmp_ge (t := 176) d_Mo_shift_145 (by decide) (fun c_145 => absurd c_145 (nI_ge (by omega) (by omega))) (fun c_145 => ?_)
    refine wp_aload_n d_Mo_shift_148 rfl rfl rfl ?_
    refine gM_68 rfl d_Mo_shift_149 ?_
    refine wp_bipush (v := 60) d_Mo_shift_152 (by decide) ?_
    refine wp_iload_n d_Mo_shift_154 rfl rfl ?_
    refine wp_imul d_Mo_shift_155 ?_
    refine wp_iload d_Mo_shift_156 rfl ?_
    refine wp_iadd d_Mo_shift_158 ?_
    refine wp_iload d_Mo_shift_159 rfl ?_
    refine wp_iadd d_Mo_shift_161 ?_
    rw [e60, nI_add, nI_add]
    refine wp_aload_n d_Mo_shift_162 rfl rfl rfl ?_
    refine gM_69 rfl d_Mo_shift_163 ?_
    refine wp_iload d_Mo_shift_166 rfl ?_
    refine lM_69 d_Mo_shift_168 (vp_in_nI (by omega) (by decide)) ?_
    refine sM_68 d_Mo_shift_169 (vp_in_nI (by omega) (by decide)) ?_
    refine wp_iinc (v := _ + 1) (ls' := [_, _, _, _, _, _, _]) d_Mo_shift_170 (by decide) rfl rfl rfl ?_
    refine wp_goto (t := 141) d_Mo_shift_173 (by decide) ?_
    rw [nI_clamp (n := 60 * oo + jj + q0) (by omega), nI_clamp (n := q0) (by omega), show nI q0 + 1 = nI (q0 + 1) from nI_1 q0]
    rw [bx_uu, show vp_updL (va_up (va_up L 69 g) 68 (va_cpy f f (60 * tt + ii) (60 * oo + jj) q0) 68) (60 * oo + jj + q0) (va_up (va_up L 69 g) 68 (va_cpy f f (60 * tt + ii) (60 * oo + jj) q0) 69 q0) = va_cpy f f (60 * tt + ii) (60 * oo + jj) (q0 + 1) from (congrArg (vp_updL (va_cpy f f (60 * tt + ii) (60 * oo + jj) q0) (60 * oo + jj + q0)) (h69 q0 (by omega))).trans va_cpy_s]
    exact ih (q0 + 1) (by omega)
set_option maxRecDepth 4000 in
theorem l_Mo_shift_104 {tt ii oo jj nn : Nat} (htt : tt < 6) (hoo : oo < 6) (hi : ii + nn ≤ 60) (hj : jj + nn ≤ 60) (k : ∀ g : Nat → Int64, Q (some (.int (nI nn))) (HM X I A (va_up (va_up L 69 g) 68 (va_cpy (L 68) (L 68) (60 * tt + ii) (60 * oo + jj) nn)) E)) : ∀ (q q0 : Nat), q0 + q = nn → px_W G D 0 0 m_Mo_shift 104 [some (.ref X.length), some (.int (nI tt)), some (.int (nI ii)), some (.int (nI oo)), some (.int (nI jj)), some (.int (nI nn)), some (.int (nI q0))] [] (HM X I A (va_up L 69 (va_cpy (L 68) (L 69) (60 * tt + ii) 0 q0)) E) Q := by
  intro q
  have e60 : (60 : Int32) * nI tt = nI (60 * tt) := pk_mul 60 tt
  induction q with
  | zero =>
    intro q0 hq
    have hq6 : q0 = nn := by omega
    subst hq6
    refine wp_iload d_Mo_shift_104 rfl ?_
    refine wp_iload d_Mo_shift_106 rfl ?_
    refine wp_icmp_ge (t := 138) d_Mo_shift_108 (by decide) (fun c_108 => ?_) (fun c_108 => absurd (nI_le (Nat.le_refl _) (by omega)) c_108)
    refine wp_iconst (v := 0) d_Mo_shift_138 rfl ?_
    refine wp_istore (ls' := [_, _, _, _, _, _, _]) d_Mo_shift_139 (by decide) rfl ?_
    rw [show HM X I A (va_up L 69 (va_cpy (L 68) (L 69) (60 * tt + ii) 0 q0)) E = HM X I A (va_up (va_up L 69 (va_cpy (L 68) (L 69) (60 * tt + ii) 0 q0)) 68 (va_cpy (L 68) (L 68) (60 * tt + ii) (60 * oo + jj) 0)) E from by
      rw [va_cpy_0]
      exact congrArg (fun z => HM X I A z E) (vL_us (L := va_up L 69 (va_cpy (L 68) (L 69) (60 * tt + ii) 0 q0)) (k := 68)).symm]
    exact l_Mo_shift_141 htt hoo hi hj (f := L 68) (fun q hq2 => by show (if 0 ≤ q ∧ q < 0 + q0 then _ else _) = _; rw [if_pos (by omega)]; rfl) (k _) q0 0 (by omega)
  | succ q ih =>
    intro q0 hq
    refine wp_iload d_Mo_shift_104 rfl ?_
    refine wp_iload d_Mo_shift_106 rfl ?_
    refine wp_icmp_ge (t := 138) d_Mo_shift_108 (by decide) (fun c_108 => absurd c_108 (nI_ge (by omega) (by omega))) (fun c_108 => ?_)
    refine wp_aload_n d_Mo_shift_111 rfl rfl rfl ?_
    refine gM_69 rfl d_Mo_shift_112 ?_
    refine wp_iload d_Mo_shift_115 rfl ?_
    refine wp_aload_n d_Mo_shift_117 rfl rfl rfl ?_
    refine gM_68 rfl d_Mo_shift_118 ?_
    refine wp_bipush (v := 60) d_Mo_shift_121 (by decide) ?_
    refine wp_iload_n d_Mo_shift_123 rfl rfl ?_
    refine wp_imul d_Mo_shift_124 ?_
    refine wp_iload_n d_Mo_shift_125 rfl rfl ?_
    refine wp_iadd d_Mo_shift_126 ?_
    refine wp_iload d_Mo_shift_127 rfl ?_
    refine wp_iadd d_Mo_shift_129 ?_
    rw [e60, nI_add, nI_add]
    refine lM_68 d_Mo_shift_130 (vp_in_nI (by omega) (by decide)) ?_
    refine sM_69 d_Mo_shift_131 (vp_in_nI (by omega) (by decide)) ?_
    refine wp_iinc (v := _ + 1) (ls' := [_, _, _, _, _, _, _]) d_Mo_shift_132 (by decide) rfl rfl rfl ?_
    refine wp_goto (t := 104) d_Mo_shift_135 (by decide) ?_
    rw [nI_clamp (n := 60 * tt + ii + q0) (by omega), nI_clamp (n := q0) (by omega), show nI q0 + 1 = nI (q0 + 1) from nI_1 q0]
    rw [bx_uu, show vp_updL (va_up L 69 (va_cpy (L 68) (L 69) (60 * tt + ii) 0 q0) 69) q0 (va_up L 69 (va_cpy (L 68) (L 69) (60 * tt + ii) 0 q0) 68 (60 * tt + ii + q0)) = va_cpy (L 68) (L 69) (60 * tt + ii) 0 (q0 + 1) from (congrArg (fun z => vp_updL (va_cpy (L 68) (L 69) (60 * tt + ii) 0 q0) z (L 68 (60 * tt + ii + q0))) (Nat.zero_add q0).symm).trans va_cpy_s]
    exact ih (q0 + 1) (by omega)
set_option maxRecDepth 4000 in
theorem c_Mo_shift {t i u j n : Int32} {tt oo : Nat} (hD : 2 ≤ D) (hT : ((0 ≤ t ∧ t ≤ 5) ∧ (0 ≤ u ∧ u ≤ 5)) → t = nI tt ∧ tt < 6 ∧ u = nI oo ∧ oo < 6) (hP : ((0 ≤ t ∧ t ≤ 5) ∧ (0 ≤ u ∧ u ≤ 5)) → ¬ (n < 0 ∨ i < 0 ∨ j < 0 ∨ A 67 tt - n < i ∨ A 67 oo - n < j) → ∃ ii jj nn, i = nI ii ∧ j = nI jj ∧ n = nI nn ∧ ii + nn ≤ 60 ∧ jj + nn ≤ 60) (kn : ¬ ((0 ≤ t ∧ t ≤ 5) ∧ (0 ≤ u ∧ u ≤ 5)) → Q (some (.int (-1))) (HM X I A L E)) (k0 : ((0 ≤ t ∧ t ≤ 5) ∧ (0 ≤ u ∧ u ≤ 5)) → (A 66 tt < 0 ∨ A 66 oo < 0) → Q (some (.int (-11))) (HM X I A L E)) (kc : ((0 ≤ t ∧ t ≤ 5) ∧ (0 ≤ u ∧ u ≤ 5)) → ¬ (A 66 tt < 0 ∨ A 66 oo < 0) → ¬ A 66 tt = A 66 oo → Q (some (.int (-12))) (HM X I A L E)) (kp : ((0 ≤ t ∧ t ≤ 5) ∧ (0 ≤ u ∧ u ≤ 5)) → ¬ (A 66 tt < 0 ∨ A 66 oo < 0) → A 66 tt = A 66 oo → (n < 0 ∨ i < 0 ∨ j < 0 ∨ A 67 tt - n < i ∨ A 67 oo - n < j) → Q (some (.int (-13))) (HM X I A L E)) (kk : ((0 ≤ t ∧ t ≤ 5) ∧ (0 ≤ u ∧ u ≤ 5)) → ¬ (A 66 tt < 0 ∨ A 66 oo < 0) → A 66 tt = A 66 oo → ¬ (n < 0 ∨ i < 0 ∨ j < 0 ∨ A 67 tt - n < i ∨ A 67 oo - n < j) → ∀ ii jj nn, i = nI ii → j = nI jj → n = nI nn → ii + nn ≤ 60 → jj + nn ≤ 60 → ∀ g : Nat → Int64, Q (some (.int (nI nn))) (HM X I A (va_up (va_up L 69 g) 68 (va_cpy (L 68) (L 68) (60 * tt + ii) (60 * oo + jj) nn)) E)) : px_W G D 0 0 m_Mo_shift 0 (px_ent 7 [.ref X.length, .int t, .int i, .int u, .int j, .int n]) [] (HM X I A L E) Q := by
  show px_W _ _ _ _ _ _ [some (.ref X.length), some (.int t), some (.int i), some (.int u), some (.int j), some (.int n), none] [] _ _
  refine wp_aload_n d_Mo_shift_0 rfl rfl rfl ?_
  refine wp_iload_n d_Mo_shift_1 rfl rfl ?_
  refine wp_callV (r := (R_12, T_12, 70)) (M' := m_Mo_isTape) (as := [_]) (D' := D - 1) (C1 := 0) (C2 := 0) (S1 := 0) (S2 := 0) d_Mo_shift_2 rfl w_1507 w_1509 w_62 hm_0 k_Mo_isTape (Nat.le_of_ble_eq_true rfl) rfl (Nat.le_of_ble_eq_true rfl) (by omega) rfl rfl ?_
  refine c_Mo_isTape (by omega)  (fun c_2 => ?_) (fun c_2 => ?_)
  · skip
    refine wp_if_eq (t := 16) d_Mo_shift_5 (by decide) (fun c_5 => (absurd c_5 (by decide))) (fun c_5 => ?_)
    refine wp_aload_n d_Mo_shift_8 rfl rfl rfl ?_
    refine wp_iload_n d_Mo_shift_9 rfl rfl ?_
    refine wp_callV (r := (R_12, T_12, 70)) (M' := m_Mo_isTape) (as := [_]) (D' := D - 1) (C1 := 0) (C2 := 0) (S1 := 0) (S2 := 0) d_Mo_shift_10 rfl w_1507 w_1509 w_62 hm_0 k_Mo_isTape (Nat.le_of_ble_eq_true rfl) rfl (Nat.le_of_ble_eq_true rfl) (by omega) rfl rfl ?_
    refine c_Mo_isTape (by omega)  (fun c_10 => ?_) (fun c_10 => ?_)
    · skip
      refine wp_if_ne (t := 18) d_Mo_shift_13 (by decide) (fun c_13 => ?_) (fun c_13 => (absurd c_13 (by decide)))
      obtain ⟨rfl, htt, rfl, hoo⟩ := hT ⟨c_2, c_10⟩
      refine wp_aload_n d_Mo_shift_18 rfl rfl rfl ?_
      refine gM_66 rfl d_Mo_shift_19 ?_
      refine wp_iload_n d_Mo_shift_22 rfl rfl ?_
      refine lM_66 d_Mo_shift_23 (vp_in_nI (by omega) (by decide)) ?_
      rw [nI_clamp (n := tt) (by omega)]
      refine wp_if_lt (t := 36) d_Mo_shift_24 (by decide) (fun c_24 => ?_) (fun c_24 => ?_)
      · skip
        refine wp_bipush (v := (-11)) d_Mo_shift_36 (by decide) ?_
        refine wp_ireturn d_Mo_shift_38 rfl rfl ?_
        exact k0 ⟨c_2, c_10⟩ (by first | exact Or.inl c_24 | exact Or.inr (Int32.not_le.mp c_33))
      · skip
        refine wp_aload_n d_Mo_shift_27 rfl rfl rfl ?_
        refine gM_66 rfl d_Mo_shift_28 ?_
        refine wp_iload_n d_Mo_shift_31 rfl rfl ?_
        refine lM_66 d_Mo_shift_32 (vp_in_nI (by omega) (by decide)) ?_
        rw [nI_clamp (n := oo) (by omega)]
        refine wp_if_ge (t := 39) d_Mo_shift_33 (by decide) (fun c_33 => ?_) (fun c_33 => ?_)
        · skip
          refine wp_aload_n d_Mo_shift_39 rfl rfl rfl ?_
          refine gM_66 rfl d_Mo_shift_40 ?_
          refine wp_iload_n d_Mo_shift_43 rfl rfl ?_
          refine lM_66 d_Mo_shift_44 (vp_in_nI (by omega) (by decide)) ?_
          rw [nI_clamp (n := tt) (by omega)]
          refine wp_aload_n d_Mo_shift_45 rfl rfl rfl ?_
          refine gM_66 rfl d_Mo_shift_46 ?_
          refine wp_iload_n d_Mo_shift_49 rfl rfl ?_
          refine lM_66 d_Mo_shift_50 (vp_in_nI (by omega) (by decide)) ?_
          rw [nI_clamp (n := oo) (by omega)]
          refine wp_icmp_eq (t := 57) d_Mo_shift_51 (by decide) (fun c_51 => ?_) (fun c_51 => ?_)
          · skip
            refine wp_iload d_Mo_shift_57 rfl ?_
            refine wp_if_lt (t := 98) d_Mo_shift_59 (by decide) (fun c_59 => ?_) (fun c_59 => ?_)
            · skip
              refine wp_bipush (v := (-13)) d_Mo_shift_98 (by decide) ?_
              refine wp_ireturn d_Mo_shift_100 rfl rfl ?_
              exact kp ⟨c_2, c_10⟩ (fun z => z.elim c_24 (fun z => absurd z (Int32.not_lt.mpr c_33))) c_51 (by
                first
                  | exact Or.inl c_59
                  | exact Or.inr (Or.inl c_63)
                  | exact Or.inr (Or.inr (Or.inl c_68))
                  | exact Or.inr (Or.inr (Or.inr (Or.inl c_81)))
                  | exact Or.inr (Or.inr (Or.inr (Or.inr (Int32.not_le.mp c_95)))))
            · skip
              refine wp_iload_n d_Mo_shift_62 rfl rfl ?_
              refine wp_if_lt (t := 98) d_Mo_shift_63 (by decide) (fun c_63 => ?_) (fun c_63 => ?_)
              · skip
                refine wp_bipush (v := (-13)) d_Mo_shift_98 (by decide) ?_
                refine wp_ireturn d_Mo_shift_100 rfl rfl ?_
                exact kp ⟨c_2, c_10⟩ (fun z => z.elim c_24 (fun z => absurd z (Int32.not_lt.mpr c_33))) c_51 (by
                  first
                    | exact Or.inl c_59
                    | exact Or.inr (Or.inl c_63)
                    | exact Or.inr (Or.inr (Or.inl c_68))
                    | exact Or.inr (Or.inr (Or.inr (Or.inl c_81)))
                    | exact Or.inr (Or.inr (Or.inr (Or.inr (Int32.not_le.mp c_95)))))
              · skip
                refine wp_iload d_Mo_shift_66 rfl ?_
                refine wp_if_lt (t := 98) d_Mo_shift_68 (by decide) (fun c_68 => ?_) (fun c_68 => ?_)
                · skip
                  refine wp_bipush (v := (-13)) d_Mo_shift_98 (by decide) ?_
                  refine wp_ireturn d_Mo_shift_100 rfl rfl ?_
                  exact kp ⟨c_2, c_10⟩ (fun z => z.elim c_24 (fun z => absurd z (Int32.not_lt.mpr c_33))) c_51 (by
                    first
                      | exact Or.inl c_59
                      | exact Or.inr (Or.inl c_63)
                      | exact Or.inr (Or.inr (Or.inl c_68))
                      | exact Or.inr (Or.inr (Or.inr (Or.inl c_81)))
                      | exact Or.inr (Or.inr (Or.inr (Or.inr (Int32.not_le.mp c_95)))))
                · skip
                  refine wp_iload_n d_Mo_shift_71 rfl rfl ?_
                  refine wp_aload_n d_Mo_shift_72 rfl rfl rfl ?_
                  refine gM_67 rfl d_Mo_shift_73 ?_
                  refine wp_iload_n d_Mo_shift_76 rfl rfl ?_
                  refine lM_67 d_Mo_shift_77 (vp_in_nI (by omega) (by decide)) ?_
                  rw [nI_clamp (n := tt) (by omega)]
                  refine wp_iload d_Mo_shift_78 rfl ?_
                  refine wp_isub d_Mo_shift_80 ?_
                  refine wp_icmp_gt (t := 98) d_Mo_shift_81 (by decide) (fun c_81 => ?_) (fun c_81 => ?_)
                  · skip
                    refine wp_bipush (v := (-13)) d_Mo_shift_98 (by decide) ?_
                    refine wp_ireturn d_Mo_shift_100 rfl rfl ?_
                    exact kp ⟨c_2, c_10⟩ (fun z => z.elim c_24 (fun z => absurd z (Int32.not_lt.mpr c_33))) c_51 (by
                      first
                        | exact Or.inl c_59
                        | exact Or.inr (Or.inl c_63)
                        | exact Or.inr (Or.inr (Or.inl c_68))
                        | exact Or.inr (Or.inr (Or.inr (Or.inl c_81)))
                        | exact Or.inr (Or.inr (Or.inr (Or.inr (Int32.not_le.mp c_95)))))
                  · skip
                    refine wp_iload d_Mo_shift_84 rfl ?_
                    refine wp_aload_n d_Mo_shift_86 rfl rfl rfl ?_
                    refine gM_67 rfl d_Mo_shift_87 ?_
                    refine wp_iload_n d_Mo_shift_90 rfl rfl ?_
                    refine lM_67 d_Mo_shift_91 (vp_in_nI (by omega) (by decide)) ?_
                    rw [nI_clamp (n := oo) (by omega)]
                    refine wp_iload d_Mo_shift_92 rfl ?_
                    refine wp_isub d_Mo_shift_94 ?_
                    refine wp_icmp_le (t := 101) d_Mo_shift_95 (by decide) (fun c_95 => ?_) (fun c_95 => ?_)
                    · skip
                      refine wp_iconst (v := 0) d_Mo_shift_101 rfl ?_
                      refine wp_istore (ls' := [_, _, _, _, _, _, _]) d_Mo_shift_102 (by decide) rfl ?_
                      have hpl : ¬ (n < 0 ∨ i < 0 ∨ j < 0 ∨ A 67 tt - n < i ∨ A 67 oo - n < j) := fun z => z.elim c_59 (fun z => z.elim c_63 (fun z => z.elim c_68 (fun z => z.elim c_81 (fun z => absurd z (Int32.not_lt.mpr c_95)))))
                      obtain ⟨ii, jj, nn, rfl, rfl, rfl, hi, hj⟩ := hP ⟨c_2, c_10⟩ hpl
                      rw [show HM X I A L E = HM X I A (va_up L 69 (va_cpy (L 68) (L 69) (60 * tt + ii) 0 0)) E from by rw [va_cpy_0, vL_us]]
                      exact l_Mo_shift_104 htt hoo hi hj (fun g => kk ⟨c_2, c_10⟩ (fun z => z.elim c_24 (fun z => absurd z (Int32.not_lt.mpr c_33))) c_51 hpl ii jj nn rfl rfl rfl hi hj g) nn 0 (by omega)
                    · skip
                      refine wp_bipush (v := (-13)) d_Mo_shift_98 (by decide) ?_
                      refine wp_ireturn d_Mo_shift_100 rfl rfl ?_
                      exact kp ⟨c_2, c_10⟩ (fun z => z.elim c_24 (fun z => absurd z (Int32.not_lt.mpr c_33))) c_51 (by
                        first
                          | exact Or.inl c_59
                          | exact Or.inr (Or.inl c_63)
                          | exact Or.inr (Or.inr (Or.inl c_68))
                          | exact Or.inr (Or.inr (Or.inr (Or.inl c_81)))
                          | exact Or.inr (Or.inr (Or.inr (Or.inr (Int32.not_le.mp c_95)))))
          · skip
            refine wp_bipush (v := (-12)) d_Mo_shift_54 (by decide) ?_
            refine wp_ireturn d_Mo_shift_56 rfl rfl ?_
            exact kc ⟨c_2, c_10⟩ (fun z => z.elim c_24 (fun z => absurd z (Int32.not_lt.mpr c_33))) c_51
        · skip
          refine wp_bipush (v := (-11)) d_Mo_shift_36 (by decide) ?_
          refine wp_ireturn d_Mo_shift_38 rfl rfl ?_
          exact k0 ⟨c_2, c_10⟩ (by first | exact Or.inl c_24 | exact Or.inr (Int32.not_le.mp c_33))
    · skip
      refine wp_if_ne (t := 18) d_Mo_shift_13 (by decide) (fun c_13 => (absurd c_13 (by decide))) (fun c_13 => ?_)
      refine wp_iconst (v := (-1)) d_Mo_shift_16 rfl ?_
      refine wp_ireturn d_Mo_shift_17 rfl rfl ?_
      first | exact kn (fun z => c_2 z.1) | exact kn (fun z => c_10 z.2)
  · skip
    refine wp_if_eq (t := 16) d_Mo_shift_5 (by decide) (fun c_5 => ?_) (fun c_5 => (absurd c_5 (by decide)))
    refine wp_iconst (v := (-1)) d_Mo_shift_16 rfl ?_
    refine wp_ireturn d_Mo_shift_17 rfl rfl ?_
    first | exact kn (fun z => c_2 z.1) | exact kn (fun z => c_10 z.2)
set_option maxRecDepth 4000 in
theorem l_Mo_image_175 (hz : ∀ j, j < 8 → vp_nar .boolean (A 46 j) = A 46 j) (k : Q (some (.int (I 0))) (HM X I (mo_i3 A 8) L E)) : ∀ (q i : Nat), i + q = 8 → px_W G D 0 0 m_Mo_image 175 [some (.ref X.length), some (.int (nI i))] [] (HM X I (mo_i3 A i) L E) Q := by
  intro q
  induction q with
  | zero =>
    intro i hi
    have hi6 : i = 8 := by omega
    subst hi6
    refine wp_iload_n d_Mo_image_175 rfl rfl ?_
    refine wp_bipush (v := 8) d_Mo_image_176 (by decide) ?_
    refine wp_icmp_ge (t := 211) d_Mo_image_178 (by decide) (fun c_178 => ?_) (fun c_178 => absurd (by decide) c_178)
    refine wp_aload_n d_Mo_image_211 rfl rfl rfl ?_
    refine gM_0 rfl d_Mo_image_212 ?_
    refine wp_ireturn d_Mo_image_215 rfl rfl ?_
    exact k
  | succ q ih =>
    intro i hi
    refine wp_iload_n d_Mo_image_175 rfl rfl ?_
    refine wp_bipush (v := 8) d_Mo_image_176 (by decide) ?_
    refine wp_icmp_ge (t := 211) d_Mo_image_178 (by decide) (fun c_178 => absurd c_178 (nI_ge (b := 8) (by omega) (by decide))) (fun c_178 => ?_)
    refine wp_aload_n d_Mo_image_181 rfl rfl rfl ?_
    refine gM_62 rfl d_Mo_image_182 ?_
    refine wp_iload_n d_Mo_image_185 rfl rfl ?_
    refine wp_aload_n d_Mo_image_186 rfl rfl rfl ?_
    refine gM_45 rfl d_Mo_image_187 ?_
    refine wp_iload_n d_Mo_image_190 rfl rfl ?_
    refine lM_45 d_Mo_image_191 (vp_in_nI (by omega) (by decide)) ?_
    refine sM_62 d_Mo_image_192 (vp_in_nI (by omega) (by decide)) ?_
    refine wp_aload_n d_Mo_image_193 rfl rfl rfl ?_
    refine gM_63 rfl d_Mo_image_194 ?_
    refine wp_iload_n d_Mo_image_197 rfl rfl ?_
    refine wp_aload_n d_Mo_image_198 rfl rfl rfl ?_
    refine gM_46 rfl d_Mo_image_199 ?_
    refine wp_iload_n d_Mo_image_202 rfl rfl ?_
    refine lM_46 d_Mo_image_203 (vp_in_nI (by omega) (by decide)) ?_
    refine sM_63 d_Mo_image_204 (vp_in_nI (by omega) (by decide)) ?_
    refine wp_iinc (v := _ + 1) (ls' := [_, _]) d_Mo_image_205 (by decide) rfl rfl rfl ?_
    refine wp_goto (t := 175) d_Mo_image_208 (by decide) ?_
    rw [show nI i + 1 = nI (i + 1) from nI_1 i]
    simp only [nI_clamp (show i < 2 ^ 31 by omega)]
    refine (show px_W G D 0 0 m_Mo_image 175 [some (.ref X.length), some (.int (nI (i + 1)))] [] (HM X I (va_up (va_up (mo_i3 A i) 62 (upd (sp_cp (A 45) (A 62) i) i (A 45 i))) 63 (upd (sp_cp (A 46) (A 63) i) i (vp_nar .boolean (A 46 i)))) L E) Q from ?_)
    rw [hz i (by omega)]
    rw [mo_i3_s]
    exact ih (i + 1) (by omega)
set_option maxRecDepth 4000 in
theorem l_Mo_image_149 (hz : ∀ j, j < 8 → vp_nar .boolean (A 46 j) = A 46 j) (k : Q (some (.int (I 0))) (HM X I (mo_i3 (mo_i2 A 24) 8) L E)) : ∀ (q i : Nat), i + q = 24 → px_W G D 0 0 m_Mo_image 149 [some (.ref X.length), some (.int (nI i))] [] (HM X I (mo_i2 A i) L E) Q := by
  intro q
  induction q with
  | zero =>
    intro i hi
    have hi6 : i = 24 := by omega
    subst hi6
    refine wp_iload_n d_Mo_image_149 rfl rfl ?_
    refine wp_bipush (v := 24) d_Mo_image_150 (by decide) ?_
    refine wp_icmp_ge (t := 173) d_Mo_image_152 (by decide) (fun c_152 => ?_) (fun c_152 => absurd (by decide) c_152)
    refine wp_iconst (v := 0) d_Mo_image_173 rfl ?_
    refine wp_istore_n (ls' := [_, _]) d_Mo_image_174 rfl (by decide) rfl ?_
    rw [show HM X I (mo_i2 A 24) L E = HM X I (mo_i3 (mo_i2 A 24) 0) L E from by rw [mo_i3_0]]
    exact l_Mo_image_175 (A := mo_i2 A 24) hz k 8 0 (by omega)
  | succ q ih =>
    intro i hi
    refine wp_iload_n d_Mo_image_149 rfl rfl ?_
    refine wp_bipush (v := 24) d_Mo_image_150 (by decide) ?_
    refine wp_icmp_ge (t := 173) d_Mo_image_152 (by decide) (fun c_152 => absurd c_152 (nI_ge (b := 24) (by omega) (by decide))) (fun c_152 => ?_)
    refine wp_aload_n d_Mo_image_155 rfl rfl rfl ?_
    refine gM_60 rfl d_Mo_image_156 ?_
    refine wp_iload_n d_Mo_image_159 rfl rfl ?_
    refine wp_aload_n d_Mo_image_160 rfl rfl rfl ?_
    refine gM_9 rfl d_Mo_image_161 ?_
    refine wp_iload_n d_Mo_image_164 rfl rfl ?_
    refine lM_9 d_Mo_image_165 (vp_in_nI (by omega) (by decide)) ?_
    refine sM_60 d_Mo_image_166 (vp_in_nI (by omega) (by decide)) ?_
    refine wp_iinc (v := _ + 1) (ls' := [_, _]) d_Mo_image_167 (by decide) rfl rfl rfl ?_
    refine wp_goto (t := 149) d_Mo_image_170 (by decide) ?_
    rw [show nI i + 1 = nI (i + 1) from nI_1 i]
    simp only [nI_clamp (show i < 2 ^ 31 by omega)]
    refine (show px_W G D 0 0 m_Mo_image 149 [some (.ref X.length), some (.int (nI (i + 1)))] [] (HM X I (va_up (mo_i2 A i) 60 (upd (sp_cp (A 9) (A 60) i) i (A 9 i))) L E) Q from ?_)
    rw [mo_i2_s]
    exact ih (i + 1) (by omega)
set_option maxRecDepth 4000 in
theorem l_Mo_image_63 (hz : ∀ j, j < 8 → vp_nar .boolean (A 46 j) = A 46 j) (k : Q (some (.int (I 0))) (HM X I (mo_i3 (mo_i2 (mo_i1 A 6) 24) 8) L E)) : ∀ (q i : Nat), i + q = 6 → px_W G D 0 0 m_Mo_image 63 [some (.ref X.length), some (.int (nI i))] [] (HM X I (mo_i1 A i) L E) Q := by
  intro q
  induction q with
  | zero =>
    intro i hi
    have hi6 : i = 6 := by omega
    subst hi6
    refine wp_iload_n d_Mo_image_63 rfl rfl ?_
    refine wp_bipush (v := 6) d_Mo_image_64 (by decide) ?_
    refine wp_icmp_ge (t := 147) d_Mo_image_66 (by decide) (fun c_66 => ?_) (fun c_66 => absurd (by decide) c_66)
    refine wp_iconst (v := 0) d_Mo_image_147 rfl ?_
    refine wp_istore_n (ls' := [_, _]) d_Mo_image_148 rfl (by decide) rfl ?_
    rw [show HM X I (mo_i1 A 6) L E = HM X I (mo_i2 (mo_i1 A 6) 0) L E from by rw [mo_i2_0]]
    exact l_Mo_image_149 (A := mo_i1 A 6) hz k 24 0 (by omega)
  | succ q ih =>
    intro i hi
    refine wp_iload_n d_Mo_image_63 rfl rfl ?_
    refine wp_bipush (v := 6) d_Mo_image_64 (by decide) ?_
    refine wp_icmp_ge (t := 147) d_Mo_image_66 (by decide) (fun c_66 => absurd c_66 (nI_ge (b := 6) (by omega) (by decide))) (fun c_66 => ?_)
    refine wp_aload_n d_Mo_image_69 rfl rfl rfl ?_
    refine gM_55 rfl d_Mo_image_70 ?_
    refine wp_iload_n d_Mo_image_73 rfl rfl ?_
    refine wp_aload_n d_Mo_image_74 rfl rfl rfl ?_
    refine gM_5 rfl d_Mo_image_75 ?_
    refine wp_iload_n d_Mo_image_78 rfl rfl ?_
    refine lM_5 d_Mo_image_79 (vp_in_nI (by omega) (by decide)) ?_
    refine sM_55 d_Mo_image_80 (vp_in_nI (by omega) (by decide)) ?_
    refine wp_aload_n d_Mo_image_81 rfl rfl rfl ?_
    refine gM_56 rfl d_Mo_image_82 ?_
    refine wp_iload_n d_Mo_image_85 rfl rfl ?_
    refine wp_aload_n d_Mo_image_86 rfl rfl rfl ?_
    refine gM_6 rfl d_Mo_image_87 ?_
    refine wp_iload_n d_Mo_image_90 rfl rfl ?_
    refine lM_6 d_Mo_image_91 (vp_in_nI (by omega) (by decide)) ?_
    refine sM_56 d_Mo_image_92 (vp_in_nI (by omega) (by decide)) ?_
    refine wp_aload_n d_Mo_image_93 rfl rfl rfl ?_
    refine gM_57 rfl d_Mo_image_94 ?_
    refine wp_iload_n d_Mo_image_97 rfl rfl ?_
    refine wp_aload_n d_Mo_image_98 rfl rfl rfl ?_
    refine gM_7 rfl d_Mo_image_99 ?_
    refine wp_iload_n d_Mo_image_102 rfl rfl ?_
    refine lM_7 d_Mo_image_103 (vp_in_nI (by omega) (by decide)) ?_
    refine sM_57 d_Mo_image_104 (vp_in_nI (by omega) (by decide)) ?_
    refine wp_aload_n d_Mo_image_105 rfl rfl rfl ?_
    refine gM_58 rfl d_Mo_image_106 ?_
    refine wp_iload_n d_Mo_image_109 rfl rfl ?_
    refine wp_aload_n d_Mo_image_110 rfl rfl rfl ?_
    refine gM_8 rfl d_Mo_image_111 ?_
    refine wp_iload_n d_Mo_image_114 rfl rfl ?_
    refine lM_8 d_Mo_image_115 (vp_in_nI (by omega) (by decide)) ?_
    refine sM_58 d_Mo_image_116 (vp_in_nI (by omega) (by decide)) ?_
    refine wp_aload_n d_Mo_image_117 rfl rfl rfl ?_
    refine gM_59 rfl d_Mo_image_118 ?_
    refine wp_iload_n d_Mo_image_121 rfl rfl ?_
    refine wp_aload_n d_Mo_image_122 rfl rfl rfl ?_
    refine gM_10 rfl d_Mo_image_123 ?_
    refine wp_iload_n d_Mo_image_126 rfl rfl ?_
    refine lM_10 d_Mo_image_127 (vp_in_nI (by omega) (by decide)) ?_
    refine sM_59 d_Mo_image_128 (vp_in_nI (by omega) (by decide)) ?_
    refine wp_aload_n d_Mo_image_129 rfl rfl rfl ?_
    refine gM_61 rfl d_Mo_image_130 ?_
    refine wp_iload_n d_Mo_image_133 rfl rfl ?_
    refine wp_aload_n d_Mo_image_134 rfl rfl rfl ?_
    refine gM_43 rfl d_Mo_image_135 ?_
    refine wp_iload_n d_Mo_image_138 rfl rfl ?_
    refine lM_43 d_Mo_image_139 (vp_in_nI (by omega) (by decide)) ?_
    refine sM_61 d_Mo_image_140 (vp_in_nI (by omega) (by decide)) ?_
    refine wp_iinc (v := _ + 1) (ls' := [_, _]) d_Mo_image_141 (by decide) rfl rfl rfl ?_
    refine wp_goto (t := 63) d_Mo_image_144 (by decide) ?_
    rw [show nI i + 1 = nI (i + 1) from nI_1 i]
    simp only [nI_clamp (show i < 2 ^ 31 by omega)]
    refine (show px_W G D 0 0 m_Mo_image 63 [some (.ref X.length), some (.int (nI (i + 1)))] [] (HM X I (va_up (va_up (va_up (va_up (va_up (va_up (mo_i1 A i) 55 (upd (sp_cp (A 5) (A 55) i) i (A 5 i))) 56 (upd (sp_cp (A 6) (A 56) i) i (A 6 i))) 57 (upd (sp_cp (A 7) (A 57) i) i (A 7 i))) 58 (upd (sp_cp (A 8) (A 58) i) i (A 8 i))) 59 (upd (sp_cp (A 10) (A 59) i) i (A 10 i))) 61 (upd (sp_cp (A 43) (A 61) i) i (A 43 i))) L E) Q from ?_)
    rw [mo_i1_s]
    exact ih (i + 1) (by omega)
set_option maxRecDepth 4000 in
theorem l_Mo_undo_188 (hz : ∀ j, j < 8 → vp_nar .boolean (A 63 j) = A 63 j) (k : Q (some (.int (I 0))) (HM X I (mo_u3 A 8) L E)) : ∀ (q i : Nat), i + q = 8 → px_W G D 0 0 m_Mo_undo 188 [some (.ref X.length), some (.int (nI i))] [] (HM X I (mo_u3 A i) L E) Q := by
  intro q
  induction q with
  | zero =>
    intro i hi
    have hi6 : i = 8 := by omega
    subst hi6
    refine wp_iload_n d_Mo_undo_188 rfl rfl ?_
    refine wp_bipush (v := 8) d_Mo_undo_189 (by decide) ?_
    refine wp_icmp_ge (t := 224) d_Mo_undo_191 (by decide) (fun c_191 => ?_) (fun c_191 => absurd (by decide) c_191)
    refine wp_aload_n d_Mo_undo_224 rfl rfl rfl ?_
    refine gM_0 rfl d_Mo_undo_225 ?_
    refine wp_ireturn d_Mo_undo_228 rfl rfl ?_
    exact k
  | succ q ih =>
    intro i hi
    refine wp_iload_n d_Mo_undo_188 rfl rfl ?_
    refine wp_bipush (v := 8) d_Mo_undo_189 (by decide) ?_
    refine wp_icmp_ge (t := 224) d_Mo_undo_191 (by decide) (fun c_191 => absurd c_191 (nI_ge (b := 8) (by omega) (by decide))) (fun c_191 => ?_)
    refine wp_aload_n d_Mo_undo_194 rfl rfl rfl ?_
    refine gM_45 rfl d_Mo_undo_195 ?_
    refine wp_iload_n d_Mo_undo_198 rfl rfl ?_
    refine wp_aload_n d_Mo_undo_199 rfl rfl rfl ?_
    refine gM_62 rfl d_Mo_undo_200 ?_
    refine wp_iload_n d_Mo_undo_203 rfl rfl ?_
    refine lM_62 d_Mo_undo_204 (vp_in_nI (by omega) (by decide)) ?_
    refine sM_45 d_Mo_undo_205 (vp_in_nI (by omega) (by decide)) ?_
    refine wp_aload_n d_Mo_undo_206 rfl rfl rfl ?_
    refine gM_46 rfl d_Mo_undo_207 ?_
    refine wp_iload_n d_Mo_undo_210 rfl rfl ?_
    refine wp_aload_n d_Mo_undo_211 rfl rfl rfl ?_
    refine gM_63 rfl d_Mo_undo_212 ?_
    refine wp_iload_n d_Mo_undo_215 rfl rfl ?_
    refine lM_63 d_Mo_undo_216 (vp_in_nI (by omega) (by decide)) ?_
    refine sM_46 d_Mo_undo_217 (vp_in_nI (by omega) (by decide)) ?_
    refine wp_iinc (v := _ + 1) (ls' := [_, _]) d_Mo_undo_218 (by decide) rfl rfl rfl ?_
    refine wp_goto (t := 188) d_Mo_undo_221 (by decide) ?_
    rw [show nI i + 1 = nI (i + 1) from nI_1 i]
    simp only [nI_clamp (show i < 2 ^ 31 by omega)]
    refine (show px_W G D 0 0 m_Mo_undo 188 [some (.ref X.length), some (.int (nI (i + 1)))] [] (HM X I (va_up (va_up (mo_u3 A i) 45 (upd (sp_cp (A 62) (A 45) i) i (A 62 i))) 46 (upd (sp_cp (A 63) (A 46) i) i (vp_nar .boolean (A 63 i)))) L E) Q from ?_)
    rw [hz i (by omega)]
    rw [mo_u3_s]
    exact ih (i + 1) (by omega)
set_option maxRecDepth 4000 in
theorem l_Mo_undo_162 (hz : ∀ j, j < 8 → vp_nar .boolean (A 63 j) = A 63 j) (k : Q (some (.int (I 0))) (HM X I (mo_u3 (mo_u2 A 24) 8) L E)) : ∀ (q i : Nat), i + q = 24 → px_W G D 0 0 m_Mo_undo 162 [some (.ref X.length), some (.int (nI i))] [] (HM X I (mo_u2 A i) L E) Q := by
  intro q
  induction q with
  | zero =>
    intro i hi
    have hi6 : i = 24 := by omega
    subst hi6
    refine wp_iload_n d_Mo_undo_162 rfl rfl ?_
    refine wp_bipush (v := 24) d_Mo_undo_163 (by decide) ?_
    refine wp_icmp_ge (t := 186) d_Mo_undo_165 (by decide) (fun c_165 => ?_) (fun c_165 => absurd (by decide) c_165)
    refine wp_iconst (v := 0) d_Mo_undo_186 rfl ?_
    refine wp_istore_n (ls' := [_, _]) d_Mo_undo_187 rfl (by decide) rfl ?_
    rw [show HM X I (mo_u2 A 24) L E = HM X I (mo_u3 (mo_u2 A 24) 0) L E from by rw [mo_u3_0]]
    exact l_Mo_undo_188 (A := mo_u2 A 24) hz k 8 0 (by omega)
  | succ q ih =>
    intro i hi
    refine wp_iload_n d_Mo_undo_162 rfl rfl ?_
    refine wp_bipush (v := 24) d_Mo_undo_163 (by decide) ?_
    refine wp_icmp_ge (t := 186) d_Mo_undo_165 (by decide) (fun c_165 => absurd c_165 (nI_ge (b := 24) (by omega) (by decide))) (fun c_165 => ?_)
    refine wp_aload_n d_Mo_undo_168 rfl rfl rfl ?_
    refine gM_9 rfl d_Mo_undo_169 ?_
    refine wp_iload_n d_Mo_undo_172 rfl rfl ?_
    refine wp_aload_n d_Mo_undo_173 rfl rfl rfl ?_
    refine gM_60 rfl d_Mo_undo_174 ?_
    refine wp_iload_n d_Mo_undo_177 rfl rfl ?_
    refine lM_60 d_Mo_undo_178 (vp_in_nI (by omega) (by decide)) ?_
    refine sM_9 d_Mo_undo_179 (vp_in_nI (by omega) (by decide)) ?_
    refine wp_iinc (v := _ + 1) (ls' := [_, _]) d_Mo_undo_180 (by decide) rfl rfl rfl ?_
    refine wp_goto (t := 162) d_Mo_undo_183 (by decide) ?_
    rw [show nI i + 1 = nI (i + 1) from nI_1 i]
    simp only [nI_clamp (show i < 2 ^ 31 by omega)]
    refine (show px_W G D 0 0 m_Mo_undo 162 [some (.ref X.length), some (.int (nI (i + 1)))] [] (HM X I (va_up (mo_u2 A i) 9 (upd (sp_cp (A 60) (A 9) i) i (A 60 i))) L E) Q from ?_)
    rw [mo_u2_s]
    exact ih (i + 1) (by omega)
set_option maxRecDepth 4000 in
theorem l_Mo_undo_76 (hz : ∀ j, j < 8 → vp_nar .boolean (A 63 j) = A 63 j) (k : Q (some (.int (I 0))) (HM X I (mo_u3 (mo_u2 (mo_u1 A 6) 24) 8) L E)) : ∀ (q i : Nat), i + q = 6 → px_W G D 0 0 m_Mo_undo 76 [some (.ref X.length), some (.int (nI i))] [] (HM X I (mo_u1 A i) L E) Q := by
  intro q
  induction q with
  | zero =>
    intro i hi
    have hi6 : i = 6 := by omega
    subst hi6
    refine wp_iload_n d_Mo_undo_76 rfl rfl ?_
    refine wp_bipush (v := 6) d_Mo_undo_77 (by decide) ?_
    refine wp_icmp_ge (t := 160) d_Mo_undo_79 (by decide) (fun c_79 => ?_) (fun c_79 => absurd (by decide) c_79)
    refine wp_iconst (v := 0) d_Mo_undo_160 rfl ?_
    refine wp_istore_n (ls' := [_, _]) d_Mo_undo_161 rfl (by decide) rfl ?_
    rw [show HM X I (mo_u1 A 6) L E = HM X I (mo_u2 (mo_u1 A 6) 0) L E from by rw [mo_u2_0]]
    exact l_Mo_undo_162 (A := mo_u1 A 6) hz k 24 0 (by omega)
  | succ q ih =>
    intro i hi
    refine wp_iload_n d_Mo_undo_76 rfl rfl ?_
    refine wp_bipush (v := 6) d_Mo_undo_77 (by decide) ?_
    refine wp_icmp_ge (t := 160) d_Mo_undo_79 (by decide) (fun c_79 => absurd c_79 (nI_ge (b := 6) (by omega) (by decide))) (fun c_79 => ?_)
    refine wp_aload_n d_Mo_undo_82 rfl rfl rfl ?_
    refine gM_5 rfl d_Mo_undo_83 ?_
    refine wp_iload_n d_Mo_undo_86 rfl rfl ?_
    refine wp_aload_n d_Mo_undo_87 rfl rfl rfl ?_
    refine gM_55 rfl d_Mo_undo_88 ?_
    refine wp_iload_n d_Mo_undo_91 rfl rfl ?_
    refine lM_55 d_Mo_undo_92 (vp_in_nI (by omega) (by decide)) ?_
    refine sM_5 d_Mo_undo_93 (vp_in_nI (by omega) (by decide)) ?_
    refine wp_aload_n d_Mo_undo_94 rfl rfl rfl ?_
    refine gM_6 rfl d_Mo_undo_95 ?_
    refine wp_iload_n d_Mo_undo_98 rfl rfl ?_
    refine wp_aload_n d_Mo_undo_99 rfl rfl rfl ?_
    refine gM_56 rfl d_Mo_undo_100 ?_
    refine wp_iload_n d_Mo_undo_103 rfl rfl ?_
    refine lM_56 d_Mo_undo_104 (vp_in_nI (by omega) (by decide)) ?_
    refine sM_6 d_Mo_undo_105 (vp_in_nI (by omega) (by decide)) ?_
    refine wp_aload_n d_Mo_undo_106 rfl rfl rfl ?_
    refine gM_7 rfl d_Mo_undo_107 ?_
    refine wp_iload_n d_Mo_undo_110 rfl rfl ?_
    refine wp_aload_n d_Mo_undo_111 rfl rfl rfl ?_
    refine gM_57 rfl d_Mo_undo_112 ?_
    refine wp_iload_n d_Mo_undo_115 rfl rfl ?_
    refine lM_57 d_Mo_undo_116 (vp_in_nI (by omega) (by decide)) ?_
    refine sM_7 d_Mo_undo_117 (vp_in_nI (by omega) (by decide)) ?_
    refine wp_aload_n d_Mo_undo_118 rfl rfl rfl ?_
    refine gM_8 rfl d_Mo_undo_119 ?_
    refine wp_iload_n d_Mo_undo_122 rfl rfl ?_
    refine wp_aload_n d_Mo_undo_123 rfl rfl rfl ?_
    refine gM_58 rfl d_Mo_undo_124 ?_
    refine wp_iload_n d_Mo_undo_127 rfl rfl ?_
    refine lM_58 d_Mo_undo_128 (vp_in_nI (by omega) (by decide)) ?_
    refine sM_8 d_Mo_undo_129 (vp_in_nI (by omega) (by decide)) ?_
    refine wp_aload_n d_Mo_undo_130 rfl rfl rfl ?_
    refine gM_10 rfl d_Mo_undo_131 ?_
    refine wp_iload_n d_Mo_undo_134 rfl rfl ?_
    refine wp_aload_n d_Mo_undo_135 rfl rfl rfl ?_
    refine gM_59 rfl d_Mo_undo_136 ?_
    refine wp_iload_n d_Mo_undo_139 rfl rfl ?_
    refine lM_59 d_Mo_undo_140 (vp_in_nI (by omega) (by decide)) ?_
    refine sM_10 d_Mo_undo_141 (vp_in_nI (by omega) (by decide)) ?_
    refine wp_aload_n d_Mo_undo_142 rfl rfl rfl ?_
    refine gM_43 rfl d_Mo_undo_143 ?_
    refine wp_iload_n d_Mo_undo_146 rfl rfl ?_
    refine wp_aload_n d_Mo_undo_147 rfl rfl rfl ?_
    refine gM_61 rfl d_Mo_undo_148 ?_
    refine wp_iload_n d_Mo_undo_151 rfl rfl ?_
    refine lM_61 d_Mo_undo_152 (vp_in_nI (by omega) (by decide)) ?_
    refine sM_43 d_Mo_undo_153 (vp_in_nI (by omega) (by decide)) ?_
    refine wp_iinc (v := _ + 1) (ls' := [_, _]) d_Mo_undo_154 (by decide) rfl rfl rfl ?_
    refine wp_goto (t := 76) d_Mo_undo_157 (by decide) ?_
    rw [show nI i + 1 = nI (i + 1) from nI_1 i]
    simp only [nI_clamp (show i < 2 ^ 31 by omega)]
    refine (show px_W G D 0 0 m_Mo_undo 76 [some (.ref X.length), some (.int (nI (i + 1)))] [] (HM X I (va_up (va_up (va_up (va_up (va_up (va_up (mo_u1 A i) 5 (upd (sp_cp (A 55) (A 5) i) i (A 55 i))) 6 (upd (sp_cp (A 56) (A 6) i) i (A 56 i))) 7 (upd (sp_cp (A 57) (A 7) i) i (A 57 i))) 8 (upd (sp_cp (A 58) (A 8) i) i (A 58 i))) 10 (upd (sp_cp (A 59) (A 10) i) i (A 59 i))) 43 (upd (sp_cp (A 61) (A 43) i) i (A 61 i))) L E) Q from ?_)
    rw [mo_u1_s]
    exact ih (i + 1) (by omega)
set_option maxRecDepth 4000 in
theorem c_Mo_image  (hD : 0 ≤ D) (hz : ∀ j, j < 8 → vp_nar .boolean (A 46 j) = A 46 j) (k : Q (some (.int (I 0))) (HM X (upd (upd (upd (upd (upd (upd (upd (upd I 47 1) 48 (I 12)) 49 (I 0)) 50 (I 2)) 51 (I 3)) 52 (I 4)) 53 (I 42)) 54 (I 44)) (mo_i3 (mo_i2 (mo_i1 A 6) 24) 8) L E)) : px_W G D 0 0 m_Mo_image 0 (px_ent 2 [.ref X.length]) [] (HM X I A L E) Q := by
  show px_W _ _ _ _ _ _ [some (.ref X.length), none] [] _ _
  refine wp_aload_n d_Mo_image_0 rfl rfl rfl ?_
  refine wp_iconst (v := 1) d_Mo_image_1 rfl ?_
  refine pM_47 rfl rfl rfl d_Mo_image_2 ?_
  refine wp_aload_n d_Mo_image_5 rfl rfl rfl ?_
  refine wp_aload_n d_Mo_image_6 rfl rfl rfl ?_
  refine gM_12 rfl d_Mo_image_7 ?_
  refine pM_48 rfl d_Mo_image_10 ?_
  refine wp_aload_n d_Mo_image_13 rfl rfl rfl ?_
  refine wp_aload_n d_Mo_image_14 rfl rfl rfl ?_
  refine gM_0 rfl d_Mo_image_15 ?_
  refine pM_49 rfl d_Mo_image_18 ?_
  refine wp_aload_n d_Mo_image_21 rfl rfl rfl ?_
  refine wp_aload_n d_Mo_image_22 rfl rfl rfl ?_
  refine gM_2 rfl d_Mo_image_23 ?_
  refine pM_50 rfl d_Mo_image_26 ?_
  refine wp_aload_n d_Mo_image_29 rfl rfl rfl ?_
  refine wp_aload_n d_Mo_image_30 rfl rfl rfl ?_
  refine gM_3 rfl d_Mo_image_31 ?_
  refine pM_51 rfl d_Mo_image_34 ?_
  refine wp_aload_n d_Mo_image_37 rfl rfl rfl ?_
  refine wp_aload_n d_Mo_image_38 rfl rfl rfl ?_
  refine gM_4 rfl d_Mo_image_39 ?_
  refine pM_52 rfl d_Mo_image_42 ?_
  refine wp_aload_n d_Mo_image_45 rfl rfl rfl ?_
  refine wp_aload_n d_Mo_image_46 rfl rfl rfl ?_
  refine gM_42 rfl d_Mo_image_47 ?_
  refine pM_53 rfl d_Mo_image_50 ?_
  refine wp_aload_n d_Mo_image_53 rfl rfl rfl ?_
  refine wp_aload_n d_Mo_image_54 rfl rfl rfl ?_
  refine gM_44 rfl d_Mo_image_55 ?_
  refine pM_54 rfl d_Mo_image_58 ?_
  refine wp_iconst (v := 0) d_Mo_image_61 rfl ?_
  refine wp_istore_n (ls' := [_, _]) d_Mo_image_62 rfl (by decide) rfl ?_
  rw [show ∀ J : Nat → Int32, HM X J A L E = HM X J (mo_i1 A 0) L E from fun J => by rw [mo_i1_0]]
  exact l_Mo_image_63 hz k 6 0 (by omega)
set_option maxRecDepth 4000 in
theorem c_Mo_undo  (hD : 0 ≤ D) (hz : ∀ j, j < 8 → vp_nar .boolean (A 63 j) = A 63 j) (ks : I 47 = 0 → Q (some (.int (-3))) (HM X I A L E)) (k : ¬ I 47 = 0 → Q (some (.int (I 49))) (HM X (upd (upd (upd (upd (upd (upd (upd (upd I 12 (I 48)) 0 (I 49)) 1 (I 49)) 2 (I 50)) 3 (I 51)) 4 (I 52)) 42 (I 53)) 44 (I 54)) (mo_u3 (mo_u2 (mo_u1 A 6) 24) 8) L E)) : px_W G D 0 0 m_Mo_undo 0 (px_ent 2 [.ref X.length]) [] (HM X I A L E) Q := by
  show px_W _ _ _ _ _ _ [some (.ref X.length), none] [] _ _
  refine wp_aload_n d_Mo_undo_0 rfl rfl rfl ?_
  refine gM_47 rfl d_Mo_undo_1 ?_
  refine wp_if_ne (t := 10) d_Mo_undo_4 (by decide) (fun c_4 => ?_) (fun c_4 => ?_)
  · skip
    refine wp_aload_n d_Mo_undo_10 rfl rfl rfl ?_
    refine wp_aload_n d_Mo_undo_11 rfl rfl rfl ?_
    refine gM_48 rfl d_Mo_undo_12 ?_
    refine pM_12 rfl d_Mo_undo_15 ?_
    refine wp_aload_n d_Mo_undo_18 rfl rfl rfl ?_
    refine wp_aload_n d_Mo_undo_19 rfl rfl rfl ?_
    refine gM_49 rfl d_Mo_undo_20 ?_
    refine pM_0 rfl d_Mo_undo_23 ?_
    refine wp_aload_n d_Mo_undo_26 rfl rfl rfl ?_
    refine wp_aload_n d_Mo_undo_27 rfl rfl rfl ?_
    refine gM_49 rfl d_Mo_undo_28 ?_
    refine pM_1 rfl d_Mo_undo_31 ?_
    refine wp_aload_n d_Mo_undo_34 rfl rfl rfl ?_
    refine wp_aload_n d_Mo_undo_35 rfl rfl rfl ?_
    refine gM_50 rfl d_Mo_undo_36 ?_
    refine pM_2 rfl d_Mo_undo_39 ?_
    refine wp_aload_n d_Mo_undo_42 rfl rfl rfl ?_
    refine wp_aload_n d_Mo_undo_43 rfl rfl rfl ?_
    refine gM_51 rfl d_Mo_undo_44 ?_
    refine pM_3 rfl d_Mo_undo_47 ?_
    refine wp_aload_n d_Mo_undo_50 rfl rfl rfl ?_
    refine wp_aload_n d_Mo_undo_51 rfl rfl rfl ?_
    refine gM_52 rfl d_Mo_undo_52 ?_
    refine pM_4 rfl d_Mo_undo_55 ?_
    refine wp_aload_n d_Mo_undo_58 rfl rfl rfl ?_
    refine wp_aload_n d_Mo_undo_59 rfl rfl rfl ?_
    refine gM_53 rfl d_Mo_undo_60 ?_
    refine pM_42 rfl d_Mo_undo_63 ?_
    refine wp_aload_n d_Mo_undo_66 rfl rfl rfl ?_
    refine wp_aload_n d_Mo_undo_67 rfl rfl rfl ?_
    refine gM_54 rfl d_Mo_undo_68 ?_
    refine pM_44 rfl d_Mo_undo_71 ?_
    refine wp_iconst (v := 0) d_Mo_undo_74 rfl ?_
    refine wp_istore_n (ls' := [_, _]) d_Mo_undo_75 rfl (by decide) rfl ?_
    rw [show ∀ J : Nat → Int32, HM X J A L E = HM X J (mo_u1 A 0) L E from fun J => by rw [mo_u1_0]]
    exact l_Mo_undo_76 hz (k c_4) 6 0 (by omega)
  · skip
    refine wp_bipush (v := (-3)) d_Mo_undo_7 (by decide) ?_
    refine wp_ireturn d_Mo_undo_9 rfl rfl ?_
    exact ks c_4
end MO9
