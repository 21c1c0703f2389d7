def sp_flL (f : Nat → Int64) (v : Int64) (i : Nat) : Nat → Int64 := fun q => if q < i then v else f q
theorem sp_flL_s (f : Nat → Int64) (v : Int64) (i : Nat) : vp_updL (sp_flL f v i) i v = sp_flL f v (i + 1) := by
  funext q
  show (if q = i then v else if q < i then v else f q) = if q < i + 1 then v else f q
  by_cases h : q = i
  · rw [if_pos h, if_pos (by omega)]
  · rw [if_neg h]
    by_cases h2 : q < i
    · rw [if_pos h2, if_pos (by omega)]
    · rw [if_neg h2, if_neg (by omega)]
theorem sp_flL_0 (f : Nat → Int64) (v : Int64) : sp_flL f v 0 = f := by
  funext q
  exact if_neg (by omega)
/-- but for the i-th tape nothing changes -/
def tpk (i : Nat) (K K2 : tc_K) : Prop := K2.2.1 = K.2.1 ∧ K2.2.2.1 = K.2.2.1 ∧ K2.2.2.2.1 = K.2.2.2.1 ∧ (∀ s, s ≠ 6 + i → K2.1 s = K.1 s) ∧ ∀ t, t ≠ i → K2.2.2.2.2 t = K.2.2.2.2 t
section TDL
variable {G : px_G} {D : Nat} {K K1 : tc_K} {MZ h : px_H} {r r1 : tc_r} {Q : Option Value → px_H → Prop} {mn : tc_mn} {sc : tc_sc} {B : Nat} {S : sp_St} {t0 : Int32} {hl fr : Nat → Int32}
set_option maxRecDepth 4000 in
theorem l_Ar_fill_AJJ_6 {p n : Nat} {v : Int64} {f : Nat → Int64} (he : h[p]? = some (.inl (.long, n, .inr (.inl f)))) (hn : n < 2 ^ 31) (k : Q none (h.set p (.inl (.long, n, .inr (.inl (sp_flL f v n)))))) : ∀ (d i : Nat), i + d = n → px_W G D 0 0 m_Ar_fill_AJJ 6 [some (.ref p), some (.long v), none, some (.int (nI i)), some (.int (nI n))] [] (h.set p (.inl (.long, n, .inr (.inl (sp_flL f v i))))) Q := by
  intro d
  induction d with
  | zero =>
    intro i hid
    refine wp_iload_n d_Ar_fill_AJJ_6 rfl rfl ?_
    refine wp_iload d_Ar_fill_AJJ_7 rfl ?_
    refine wp_icmp_ge (t := 22) d_Ar_fill_AJJ_9 (by decide) (fun c_9 => ?_) (fun c_9 => absurd (nI_le (by omega) (by omega)) c_9)
    refine wp_return d_Ar_fill_AJJ_22 rfl ?_
    rw [show i = n from by omega]
    exact k
  | succ d ih =>
    intro i hid
    refine wp_iload_n d_Ar_fill_AJJ_6 rfl rfl ?_
    refine wp_iload d_Ar_fill_AJJ_7 rfl ?_
    refine wp_icmp_ge (t := 22) d_Ar_fill_AJJ_9 (by decide) (fun c_9 => absurd c_9 (nI_ge (by omega) (by omega))) (fun c_9 => ?_)
    refine wp_aload_n d_Ar_fill_AJJ_12 rfl rfl rfl ?_
    refine wp_iload_n d_Ar_fill_AJJ_13 rfl rfl ?_
    refine wp_lload_n d_Ar_fill_AJJ_14 rfl rfl ?_
    refine wp_last d_Ar_fill_AJJ_15 (px_set_at he) (vp_in_nI (by omega) (by omega)) px_ss ?_
    refine wp_iinc (v := _ + 1) (ls' := [_, _, _, _, _]) d_Ar_fill_AJJ_16 (by decide) rfl rfl rfl ?_
    refine wp_goto (t := 6) d_Ar_fill_AJJ_19 (by decide) ?_
    rw [nI_clamp (by omega), show nI i + 1 = nI (i + 1) from nI_1 i, sp_flL_s]
    exact ih (i + 1) (by omega)
set_option maxRecDepth 4000 in
theorem c_Ar_fill_AJJ {p n : Nat} {v : Int64} {f : Nat → Int64} (hD : 0 ≤ D) (he : h[p]? = some (.inl (.long, n, .inr (.inl f)))) (hn : n < 2 ^ 31) (k : Q none (h.set p (.inl (.long, n, .inr (.inl (sp_flL f v n)))))) : px_W G D 0 0 m_Ar_fill_AJJ 0 (px_ent 5 [.ref p, .long v]) [] h Q := by
  show px_W _ _ _ _ _ _ [some (.ref p), some (.long v), none, none, none] [] _ _
  refine wp_iconst (v := (nI 0)) d_Ar_fill_AJJ_0 rfl ?_
  refine wp_istore_n (ls' := [_, _, _, _, _]) d_Ar_fill_AJJ_1 rfl (by decide) rfl ?_
  refine wp_aload_n d_Ar_fill_AJJ_2 rfl rfl rfl ?_
  refine wp_alen (t0 := 1) d_Ar_fill_AJJ_3 he rfl (show Int32.ofNat n = nI n from rfl) ?_
  refine wp_istore (ls' := [_, _, _, _, _]) d_Ar_fill_AJJ_4 (by decide) rfl ?_
  have q := l_Ar_fill_AJJ_6 (G := G) (D := D) he hn k n 0 (Nat.zero_add n)
  rw [sp_flL_0, px_set_id he] at q
  exact q
set_option maxRecDepth 4000 in
theorem c_Ta_become {t : Nat} {sv nv : Int32} (hD : 1 ≤ D) (ht : t < 6) (k : ∀ K2, tpk t K K2 → K2.1 (6 + t) 1 = sv → K2.1 (6 + t) 2 = nv → (∀ q, q < 60 → K2.2.2.2.2 t q = 0) → Q none (HT K2 MZ r)) : px_W G D 0 0 m_Ta_become 0 (px_ent 3 [.ref (44 + 2 * t), .int sv, .int nv]) [] (HT K MZ r) Q := by
  show px_W _ _ _ _ _ _ [some (.ref (44 + 2 * t)), some (.int sv), some (.int nv)] [] _ _
  refine wp_aload_n d_Ta_become_0 rfl rfl rfl ?_
  refine wp_iload_n d_Ta_become_1 rfl rfl ?_
  refine pT_1 ht pgf_Ta_15_4 d_Ta_become_2 ?_
  refine wp_aload_n d_Ta_become_5 rfl rfl rfl ?_
  refine wp_iload_n d_Ta_become_6 rfl rfl ?_
  refine pT_2 ht pgf_Ta_19_4 d_Ta_become_7 ?_
  refine wp_aload_n d_Ta_become_10 rfl rfl rfl ?_
  refine gT_0 ht gf_Ta_9_4 d_Ta_become_11 ?_
  refine wp_lconst (v := 0) d_Ta_become_14 rfl ?_
  refine wp_callS (M' := m_Ar_fill_AJJ) (as := [_, _]) (D' := D - 1) (C1 := 0) (C2 := 0) (S1 := 0) (S2 := 0) d_Ta_become_15 w_964 w_965 k_Ar_fill_AJJ (Nat.le_of_ble_eq_true rfl) rfl (Nat.le_of_ble_eq_true rfl) (by omega) rfl rfl ?_
  refine c_Ar_fill_AJJ (by omega) (ty_at ht) (by decide) ?_
  rw [ty_st ht]
  refine wp_return d_Ta_become_18 rfl ?_
  refine k _ ⟨rfl, rfl, rfl, fun s hs => ?_, fun q hq => if_neg hq⟩ ?_ ?_ (fun q hq => ?_)
  · exact (if_neg hs).trans (if_neg hs)
  · exact (congrFun (va_up_self _ _ _) 1).trans ((congrFun (va_up_self _ _ _) 1).trans rfl)
  · exact (congrFun (va_up_self _ _ _) 2).trans rfl
  · exact (congrFun (va_up_self _ _ _) q).trans (if_pos hq)
set_option maxRecDepth 4000 in
theorem c_Ta_fit {t : Nat} {z : Int64} (hD : 0 ≤ D) (ht : t < 6) (k : Q (some (.long (sp_nrw (K.1 (6 + t) 1) z))) (HT K MZ r)) : px_W G D 0 0 m_Ta_fit 0 (px_ent 3 [.ref (44 + 2 * t), .long z]) [] (HT K MZ r) Q := by
  show px_W _ _ _ _ _ _ [some (.ref (44 + 2 * t)), some (.long z), none] [] _ _
  refine wp_aload_n d_Ta_fit_0 rfl rfl rfl ?_
  refine gT_1 ht gf_Ta_15_4 d_Ta_fit_1 ?_
  refine wp_topi (fun y_4 e_4 => ?_)
  by_cases s_4_0 : y_4 = 0
  · rw [s_4_0]
    refine wp_tableIn (off := 36) (t := 40) d_Ta_fit_4 (by decide) (by decide) rfl (by decide) ?_
    refine wp_lload_n d_Ta_fit_40 rfl rfl ?_
    refine wp_l2i d_Ta_fit_41 ?_
    refine wp_i2b d_Ta_fit_42 ?_
    refine wp_i2l d_Ta_fit_43 ?_
    refine wp_lreturn d_Ta_fit_44 rfl ?_
    refine cast (congrArg (fun z => Q (some (.long z)) (HT K MZ r)) ?_) k
    unfold sp_nrw
    rw [if_pos (e_4.symm.trans s_4_0)]
  by_cases s_4_1 : y_4 = 1
  · rw [s_4_1]
    refine wp_tableIn (off := 41) (t := 45) d_Ta_fit_4 (by decide) (by decide) rfl (by decide) ?_
    refine wp_lload_n d_Ta_fit_45 rfl rfl ?_
    refine wp_l2i d_Ta_fit_46 ?_
    refine wp_i2s d_Ta_fit_47 ?_
    refine wp_i2l d_Ta_fit_48 ?_
    refine wp_lreturn d_Ta_fit_49 rfl ?_
    refine cast (congrArg (fun z => Q (some (.long z)) (HT K MZ r)) ?_) k
    unfold sp_nrw
    rw [if_neg (fun z => s_4_0 (e_4.trans z)), if_pos (e_4.symm.trans s_4_1)]
  by_cases s_4_2 : y_4 = 2
  · rw [s_4_2]
    refine wp_tableIn (off := 46) (t := 50) d_Ta_fit_4 (by decide) (by decide) rfl (by decide) ?_
    refine wp_lload_n d_Ta_fit_50 rfl rfl ?_
    refine wp_l2i d_Ta_fit_51 ?_
    refine wp_i2l d_Ta_fit_52 ?_
    refine wp_lreturn d_Ta_fit_53 rfl ?_
    refine cast (congrArg (fun z => Q (some (.long z)) (HT K MZ r)) ?_) k
    unfold sp_nrw
    rw [if_neg (fun z => s_4_0 (e_4.trans z)), if_neg (fun z => s_4_1 (e_4.trans z)), if_pos (e_4.symm.trans s_4_2)]
  by_cases s_4_3 : y_4 = 3
  · rw [s_4_3]
    refine wp_tableIn (off := 62) (t := 66) d_Ta_fit_4 (by decide) (by decide) rfl (by decide) ?_
    refine wp_lload_n d_Ta_fit_66 rfl rfl ?_
    refine wp_lreturn d_Ta_fit_67 rfl ?_
    refine cast (congrArg (fun z => Q (some (.long z)) (HT K MZ r)) ?_) k
    unfold sp_nrw
    rw [if_neg (fun z => s_4_0 (e_4.trans z)), if_neg (fun z => s_4_1 (e_4.trans z)), if_neg (fun z => s_4_2 (e_4.trans z))]
    first
      | rw [if_neg (fun z => s_4_4 (e_4.trans z))]
      | (rw [if_neg]
         intro z
         have q := e_4.symm.trans s_4_3
         rw [z] at q
         exact absurd q (by decide))
  by_cases s_4_4 : y_4 = 4
  · rw [s_4_4]
    refine wp_tableIn (off := 50) (t := 54) d_Ta_fit_4 (by decide) (by decide) rfl (by decide) ?_
    refine wp_lload_n d_Ta_fit_54 rfl rfl ?_
    refine wp_lconst (v := 0) d_Ta_fit_55 rfl ?_
    refine wp_lcmp d_Ta_fit_56 ?_
    refine wp_if_eq (t := 64) d_Ta_fit_57 (by decide) (fun c_57 => ?_) (fun c_57 => ?_)
    · skip
      refine wp_lconst (v := 0) d_Ta_fit_64 rfl ?_
      refine wp_lreturn d_Ta_fit_65 rfl ?_
      refine cast (congrArg (fun z => Q (some (.long z)) (HT K MZ r)) ?_) k
      unfold sp_nrw
      rw [if_neg (fun z => s_4_0 (e_4.trans z)), if_neg (fun z => s_4_1 (e_4.trans z)), if_neg (fun z => s_4_2 (e_4.trans z)), if_pos (e_4.symm.trans s_4_4)]
      first
        | rw [if_pos c_57]
        | rw [if_neg c_57]
    · skip
      refine wp_lconst (v := 1) d_Ta_fit_60 rfl ?_
      refine wp_goto (t := 65) d_Ta_fit_61 (by decide) ?_
      refine wp_lreturn d_Ta_fit_65 rfl ?_
      refine cast (congrArg (fun z => Q (some (.long z)) (HT K MZ r)) ?_) k
      unfold sp_nrw
      rw [if_neg (fun z => s_4_0 (e_4.trans z)), if_neg (fun z => s_4_1 (e_4.trans z)), if_neg (fun z => s_4_2 (e_4.trans z)), if_pos (e_4.symm.trans s_4_4)]
      first
        | rw [if_pos c_57]
        | rw [if_neg c_57]
  have n_4_0 : y_4.toInt ≠ 0 := lv_neT s_4_0 rfl
  have n_4_1 : y_4.toInt ≠ 1 := lv_neT s_4_1 rfl
  have n_4_2 : y_4.toInt ≠ 2 := lv_neT s_4_2 rfl
  have n_4_3 : y_4.toInt ≠ 3 := lv_neT s_4_3 rfl
  have n_4_4 : y_4.toInt ≠ 4 := lv_neT s_4_4 rfl
  refine wp_tableOut (t := 66) d_Ta_fit_4 (by omega) (by decide) ?_
  refine wp_lload_n d_Ta_fit_66 rfl rfl ?_
  refine wp_lreturn d_Ta_fit_67 rfl ?_
  refine cast (congrArg (fun z => Q (some (.long z)) (HT K MZ r)) ?_) k
  unfold sp_nrw
  rw [if_neg (fun z => s_4_0 (e_4.trans z)), if_neg (fun z => s_4_1 (e_4.trans z)), if_neg (fun z => s_4_2 (e_4.trans z))]
  first
    | rw [if_neg (fun z => s_4_4 (e_4.trans z))]
    | (rw [if_neg]
       intro z
       have q := e_4.symm.trans s_4_3
       rw [z] at q
       exact absurd q (by decide))
set_option maxRecDepth 4000 in
theorem c_Ta_has {t l : Nat} {i n : Int32} (hD : 0 ≤ D) (ht : t < 6) (hl60 : l ≤ 60) (hlen : K.1 (6 + t) 2 = nI l) (kt : ∀ a c, i = nI a → n = nI c → a + c ≤ l → Q (some (.int 1)) (HT K MZ r)) (kf : (∀ a c, i = nI a → n = nI c → ¬ a + c ≤ l) → Q (some (.int 0)) (HT K MZ r)) : px_W G D 0 0 m_Ta_has 0 (px_ent 3 [.ref (44 + 2 * t), .int i, .int n]) [] (HT K MZ r) Q := by
  show px_W _ _ _ _ _ _ [some (.ref (44 + 2 * t)), some (.int i), some (.int n)] [] _ _
  refine wp_iload_n d_Ta_has_0 rfl rfl ?_
  refine wp_if_lt (t := 26) d_Ta_has_1 (by decide) (fun c_1 => ?_) (fun c_1 => ?_)
  · skip
    refine wp_iconst (v := 0) d_Ta_has_26 rfl ?_
    refine wp_ireturn d_Ta_has_27 rfl rfl ?_
    first
      | exact kf (fun a c z1 z2 z3 => by rw [z1] at c_1; exact absurd c_1 (nI_pos (by omega)))
      | exact kf (fun a c z1 z2 z3 => by rw [z2] at c_5; exact absurd c_5 (nI_pos (by omega)))
      | exact kf (fun a2 c2 z1 z2 z3 => by
          have q1 := (nI_eq ha (by omega)).mp z1
          have q2 := (nI_eq hc (by omega)).mp z2
          exact absurd c_19 (Int32.not_lt.mpr ((lg_cmp_le _ _).mpr ((pk_lLE (by omega) (by omega)).mpr (by omega)))))
  · skip
    refine wp_iload_n d_Ta_has_4 rfl rfl ?_
    refine wp_if_lt (t := 26) d_Ta_has_5 (by decide) (fun c_5 => ?_) (fun c_5 => ?_)
    · skip
      refine wp_iconst (v := 0) d_Ta_has_26 rfl ?_
      refine wp_ireturn d_Ta_has_27 rfl rfl ?_
      first
        | exact kf (fun a c z1 z2 z3 => by rw [z1] at c_1; exact absurd c_1 (nI_pos (by omega)))
        | exact kf (fun a c z1 z2 z3 => by rw [z2] at c_5; exact absurd c_5 (nI_pos (by omega)))
        | exact kf (fun a2 c2 z1 z2 z3 => by
            have q1 := (nI_eq ha (by omega)).mp z1
            have q2 := (nI_eq hc (by omega)).mp z2
            exact absurd c_19 (Int32.not_lt.mpr ((lg_cmp_le _ _).mpr ((pk_lLE (by omega) (by omega)).mpr (by omega)))))
    · skip
      obtain ⟨a, ha, rfl⟩ := nI_of c_1
      obtain ⟨c, hc, rfl⟩ := nI_of c_5
      refine wp_iload_n d_Ta_has_8 rfl rfl ?_
      refine wp_i2l d_Ta_has_9 ?_
      refine wp_iload_n d_Ta_has_10 rfl rfl ?_
      refine wp_i2l d_Ta_has_11 ?_
      refine wp_ladd d_Ta_has_12 ?_
      refine wp_aload_n d_Ta_has_13 rfl rfl rfl ?_
      refine gT_2 ht gf_Ta_19_4 d_Ta_has_14 ?_
      rw [hlen]
      refine wp_i2l d_Ta_has_17 ?_
      rw [nI_l ha, nI_l hc, nI_l (by omega), lN_add]
      refine wp_lcmp d_Ta_has_18 ?_
      refine wp_if_gt (t := 26) d_Ta_has_19 (by decide) (fun c_19 => ?_) (fun c_19 => ?_)
      · skip
        refine wp_iconst (v := 0) d_Ta_has_26 rfl ?_
        refine wp_ireturn d_Ta_has_27 rfl rfl ?_
        first
          | exact kf (fun a c z1 z2 z3 => by rw [z1] at c_1; exact absurd c_1 (nI_pos (by omega)))
          | exact kf (fun a c z1 z2 z3 => by rw [z2] at c_5; exact absurd c_5 (nI_pos (by omega)))
          | exact kf (fun a2 c2 z1 z2 z3 => by
              have q1 := (nI_eq ha (by omega)).mp z1
              have q2 := (nI_eq hc (by omega)).mp z2
              exact absurd c_19 (Int32.not_lt.mpr ((lg_cmp_le _ _).mpr ((pk_lLE (by omega) (by omega)).mpr (by omega)))))
      · skip
        refine wp_iconst (v := 1) d_Ta_has_22 rfl ?_
        refine wp_goto (t := 27) d_Ta_has_23 (by decide) ?_
        refine wp_ireturn d_Ta_has_27 rfl rfl ?_
        exact kt a c rfl rfl ((pk_lLE (by omega) (by omega)).mp ((lg_cmp_le _ _).mp (Int32.not_lt.mp c_19)))
set_option maxRecDepth 4000 in
theorem c_TC_tape {y sv nv : Int32} (hD : 2 ≤ D) (kn : ¬ (0 ≤ y ∧ y ≤ 5) → Q (some (.int (-1))) (HT K MZ r)) (kb : ∀ t, t < 6 → y = nI t → (¬ (-1 ≤ sv ∧ sv ≤ 4) ∨ ((-1 ≤ sv ∧ sv ≤ 4) ∧ ¬ sv = -1 ∧ 60 < nv)) → Q (some (.int (-2))) (HT K MZ r)) (kz : ∀ t, t < 6 → y = nI t → (-1 ≤ sv ∧ sv ≤ 4) → ¬ sv = -1 → nv ≤ 60 → nv < 0 → Q (some (.int (-14))) (HT K MZ r)) (ke : ∀ t, t < 6 → y = nI t → sv = -1 → ∀ K2, tpk t K K2 → K2.1 (6 + t) 1 = -1 → K2.1 (6 + t) 2 = 0 → (∀ q, q < 60 → K2.2.2.2.2 t q = 0) → Q (some (.int 1)) (HT K2 MZ r)) (kk : ∀ t nn, t < 6 → y = nI t → (-1 ≤ sv ∧ sv ≤ 4) → ¬ sv = -1 → nn ≤ 60 → nv = nI nn → ∀ K2, tpk t K K2 → K2.1 (6 + t) 1 = sv → K2.1 (6 + t) 2 = (nI nn) → (∀ q, q < 60 → K2.2.2.2.2 t q = 0) → Q (some (.int 1)) (HT K2 MZ r)) : px_W G D 0 0 m_TC_tape 0 (px_ent 4 [.ref 0, .int y, .int sv, .int nv]) [] (HT K MZ r) Q := by
  show px_W _ _ _ _ _ _ [some (.ref 0), some (.int y), some (.int sv), some (.int nv)] [] _ _
  refine wp_iload_n d_TC_tape_0 rfl rfl ?_
  refine wp_callS (M' := m_TC_isNoTape) (as := [_]) (D' := D - 1) (C1 := 0) (C2 := 0) (S1 := 0) (S2 := 0) d_TC_tape_1 w_840 w_841 k_TC_isNoTape (Nat.le_of_ble_eq_true rfl) rfl (Nat.le_of_ble_eq_true rfl) (by omega) rfl rfl ?_
  refine c_TC_isNoTape (by omega)  (fun ht0 => ?_) (fun ht0 => ?_)
  · skip
    refine wp_if_eq (t := 9) d_TC_tape_4 (by decide) (fun c_4 => (absurd c_4 (by decide))) (fun c_4 => ?_)
    refine wp_iconst (v := (-1)) d_TC_tape_7 rfl ?_
    refine wp_ireturn d_TC_tape_8 rfl rfl ?_
    exact kn ht0
  · skip
    refine wp_if_eq (t := 9) d_TC_tape_4 (by decide) (fun c_4 => ?_) (fun c_4 => (absurd c_4 (by decide)))
    obtain ⟨t, ht, rfl⟩ := (i_rng (m := y) (n := 6) (by decide)).mp ⟨ht0.1, (i_lt (a := nI 6) (b := 5) rfl).mpr ht0.2⟩
    refine wp_iload_n d_TC_tape_9 rfl rfl ?_
    refine wp_iconst (v := (-1)) d_TC_tape_10 rfl ?_
    refine wp_icmp_lt (t := 19) d_TC_tape_11 (by decide) (fun c_11 => ?_) (fun c_11 => ?_)
    · skip
      refine wp_bipush (v := (-2)) d_TC_tape_19 (by decide) ?_
      refine wp_ireturn d_TC_tape_21 rfl rfl ?_
      first
        | exact kb t ht rfl (Or.inl (fun z => absurd c_11 (Int32.not_lt.mpr z.1)))
        | exact kb t ht rfl (Or.inl (fun z => c_16 z.2))
    · skip
      refine wp_iload_n d_TC_tape_14 rfl rfl ?_
      refine wp_iconst (v := 4) d_TC_tape_15 rfl ?_
      refine wp_icmp_le (t := 22) d_TC_tape_16 (by decide) (fun c_16 => ?_) (fun c_16 => ?_)
      · skip
        refine wp_iload_n d_TC_tape_22 rfl rfl ?_
        refine wp_iconst (v := (-1)) d_TC_tape_23 rfl ?_
        refine wp_icmp_ne (t := 40) d_TC_tape_24 (by decide) (fun c_24 => ?_) (fun c_24 => ?_)
        · skip
          refine wp_iload_n d_TC_tape_40 rfl rfl ?_
          refine wp_bipush (v := 60) d_TC_tape_41 (by decide) ?_
          refine wp_icmp_le (t := 49) d_TC_tape_43 (by decide) (fun c_43 => ?_) (fun c_43 => ?_)
          · skip
            refine wp_iload_n d_TC_tape_49 rfl rfl ?_
            refine wp_if_ge (t := 56) d_TC_tape_50 (by decide) (fun c_50 => ?_) (fun c_50 => ?_)
            · skip
              obtain ⟨nn, hn60, rfl⟩ := nI_of2 (n := 60) (M := 60) rfl (Int32.not_lt.mpr c_50) c_43
              refine wp_aload_n d_TC_tape_56 rfl rfl rfl ?_
              refine gC_5 gf_TC_52_0 d_TC_tape_57 ?_
              refine wp_iload_n d_TC_tape_60 rfl rfl ?_
              refine lA_43 ht d_TC_tape_61 ?_
              refine wp_iload_n d_TC_tape_62 rfl rfl ?_
              refine wp_iload_n d_TC_tape_63 rfl rfl ?_
              refine wp_callV (r := (R_4, T_4, 3)) (M' := m_Ta_become) (as := [_, _]) (D' := D - 1) (C1 := 0) (C2 := 0) (S1 := 0) (S2 := 0) d_TC_tape_64 rfl w_960 w_961 w_962 (ht_lo (hc_t _ _ _ ht)) k_Ta_become (Nat.le_of_ble_eq_true rfl) rfl (Nat.le_of_ble_eq_true rfl) (by omega) rfl rfl ?_
              refine c_Ta_become (by omega) ht (fun K2 hk2 e1 e2 e3 => ?_)
              refine wp_iconst (v := 1) d_TC_tape_67 rfl ?_
              refine wp_ireturn d_TC_tape_68 rfl rfl ?_
              exact kk t nn ht rfl ⟨Int32.not_lt.mp c_11, c_16⟩ c_24 hn60 rfl K2 hk2 e1 e2 e3
            · skip
              refine wp_bipush (v := (-14)) d_TC_tape_53 (by decide) ?_
              refine wp_ireturn d_TC_tape_55 rfl rfl ?_
              exact kz t ht rfl ⟨Int32.not_lt.mp c_11, c_16⟩ c_24 c_43 (Int32.not_le.mp c_50)
          · skip
            refine wp_bipush (v := (-2)) d_TC_tape_46 (by decide) ?_
            refine wp_ireturn d_TC_tape_48 rfl rfl ?_
            exact kb t ht rfl (Or.inr ⟨⟨Int32.not_lt.mp c_11, c_16⟩, c_24, Int32.not_le.mp c_43⟩)
        · skip
          refine wp_aload_n d_TC_tape_27 rfl rfl rfl ?_
          refine gC_5 gf_TC_52_0 d_TC_tape_28 ?_
          refine wp_iload_n d_TC_tape_31 rfl rfl ?_
          refine lA_43 ht d_TC_tape_32 ?_
          refine wp_iload_n d_TC_tape_33 rfl rfl ?_
          refine wp_iconst (v := 0) d_TC_tape_34 rfl ?_
          refine wp_callV (r := (R_4, T_4, 3)) (M' := m_Ta_become) (as := [_, _]) (D' := D - 1) (C1 := 0) (C2 := 0) (S1 := 0) (S2 := 0) d_TC_tape_35 rfl w_960 w_961 w_962 (ht_lo (hc_t _ _ _ ht)) k_Ta_become (Nat.le_of_ble_eq_true rfl) rfl (Nat.le_of_ble_eq_true rfl) (by omega) rfl rfl ?_
          refine c_Ta_become (by omega) ht (fun K2 hk2 e1 e2 e3 => ?_)
          refine wp_iconst (v := 1) d_TC_tape_38 rfl ?_
          refine wp_ireturn d_TC_tape_39 rfl rfl ?_
          exact ke t ht rfl c_24 K2 hk2 (e1.trans c_24) e2 e3
      · skip
        refine wp_bipush (v := (-2)) d_TC_tape_19 (by decide) ?_
        refine wp_ireturn d_TC_tape_21 rfl rfl ?_
        first
          | exact kb t ht rfl (Or.inl (fun z => absurd c_11 (Int32.not_lt.mpr z.1)))
          | exact kb t ht rfl (Or.inl (fun z => c_16 z.2))
set_option maxRecDepth 4000 in
theorem c_TC_item {y i : Int32} {z : Int64} (hD : 2 ≤ D) (htp : ∀ t, t < 6 → ∃ l, l ≤ 60 ∧ K.1 (6 + t) 2 = nI l ∧ (K.1 (6 + t) 1 < 0 → l = 0)) (kn : ¬ (0 ≤ y ∧ y ≤ 5) → Q (some (.int (-1))) (HT K MZ r)) (kN : ∀ t, t < 6 → y = nI t → K.1 (6 + t) 1 = -1 → Q (some (.int (-11))) (HT K MZ r)) (kp : ∀ t l, t < 6 → y = nI t → K.1 (6 + t) 2 = nI l → l ≤ 60 → ¬ K.1 (6 + t) 1 = -1 → (∀ a, a < l → i ≠ nI a) → Q (some (.int (-13))) (HT K MZ r)) (kk : ∀ t l a, t < 6 → y = nI t → K.1 (6 + t) 2 = nI l → l ≤ 60 → ¬ K.1 (6 + t) 1 = -1 → a < l → i = nI a → Q (some (.int 1)) (HT (kY K t (vp_updL (K.2.2.2.2 t) a (sp_nrw (K.1 (6 + t) 1) z))) MZ r)) : px_W G D 0 0 m_TC_item 0 (px_ent 6 [.ref 0, .int y, .int i, .long z]) [] (HT K MZ r) Q := by
  show px_W _ _ _ _ _ _ [some (.ref 0), some (.int y), some (.int i), some (.long z), none, none] [] _ _
  refine wp_iload_n d_TC_item_0 rfl rfl ?_
  refine wp_callS (M' := m_TC_isNoTape) (as := [_]) (D' := D - 1) (C1 := 0) (C2 := 0) (S1 := 0) (S2 := 0) d_TC_item_1 w_840 w_841 k_TC_isNoTape (Nat.le_of_ble_eq_true rfl) rfl (Nat.le_of_ble_eq_true rfl) (by omega) rfl rfl ?_
  refine c_TC_isNoTape (by omega)  (fun ht0 => ?_) (fun ht0 => ?_)
  · skip
    refine wp_if_eq (t := 9) d_TC_item_4 (by decide) (fun c_4 => (absurd c_4 (by decide))) (fun c_4 => ?_)
    refine wp_iconst (v := (-1)) d_TC_item_7 rfl ?_
    refine wp_ireturn d_TC_item_8 rfl rfl ?_
    exact kn ht0
  · skip
    refine wp_if_eq (t := 9) d_TC_item_4 (by decide) (fun c_4 => ?_) (fun c_4 => (absurd c_4 (by decide)))
    obtain ⟨t, ht, rfl⟩ := (i_rng (m := y) (n := 6) (by decide)).mp ⟨ht0.1, (i_lt (a := nI 6) (b := 5) rfl).mpr ht0.2⟩
    obtain ⟨l, hl60, hlen, hso⟩ := htp t ht
    refine wp_aload_n d_TC_item_9 rfl rfl rfl ?_
    refine gC_5 gf_TC_52_0 d_TC_item_10 ?_
    refine wp_iload_n d_TC_item_13 rfl rfl ?_
    refine lA_43 ht d_TC_item_14 ?_
    refine wp_astore (ls' := [_, _, _, _, _, _]) d_TC_item_15 (by decide) rfl rfl ?_
    refine wp_aload d_TC_item_17 rfl rfl ?_
    refine gT_1 ht gf_TC_270_4 d_TC_item_19 ?_
    refine wp_iconst (v := (-1)) d_TC_item_22 rfl ?_
    refine wp_icmp_ne (t := 29) d_TC_item_23 (by decide) (fun c_23 => ?_) (fun c_23 => ?_)
    · skip
      refine wp_iload_n d_TC_item_29 rfl rfl ?_
      refine wp_if_lt (t := 42) d_TC_item_30 (by decide) (fun c_30 => ?_) (fun c_30 => ?_)
      · skip
        refine wp_bipush (v := (-13)) d_TC_item_42 (by decide) ?_
        refine wp_ireturn d_TC_item_44 rfl rfl ?_
        first
          | exact kp t l ht rfl hlen hl60 c_23 (fun a ha z => by rw [z] at c_30; exact absurd c_30 (nI_pos (by omega)))
          | exact kp t l ht rfl hlen hl60 c_23 (fun a ha z => by rw [z] at c_39; exact c_39 (nI_lt ha (by omega)))
      · skip
        refine wp_iload_n d_TC_item_33 rfl rfl ?_
        refine wp_aload d_TC_item_34 rfl rfl ?_
        refine gT_2 ht gf_TC_273_4 d_TC_item_36 ?_
        rw [hlen]
        refine wp_icmp_lt (t := 45) d_TC_item_39 (by decide) (fun c_39 => ?_) (fun c_39 => ?_)
        · skip
          obtain ⟨a, ha, rfl⟩ := (i_rng (m := i) (n := l) (by omega)).mp ⟨Int32.not_lt.mp c_30, c_39⟩
          refine wp_aload d_TC_item_45 rfl rfl ?_
          refine gT_0 ht gf_TC_276_4 d_TC_item_47 ?_
          refine wp_iload_n d_TC_item_50 rfl rfl ?_
          refine wp_aload d_TC_item_51 rfl rfl ?_
          refine wp_lload_n d_TC_item_53 rfl rfl ?_
          refine wp_callV (r := (R_4, T_4, 3)) (M' := m_Ta_fit) (as := [_]) (D' := D - 1) (C1 := 0) (C2 := 0) (S1 := 0) (S2 := 0) d_TC_item_54 rfl w_971 w_972 w_973 (ht_lo (hc_t _ _ _ ht)) k_Ta_fit (Nat.le_of_ble_eq_true rfl) rfl (Nat.le_of_ble_eq_true rfl) (by omega) rfl rfl ?_
          refine c_Ta_fit (by omega) ht ?_
          refine wp_last d_TC_item_57 (ty_at ht) (vp_in_nI (by omega) (by decide)) (ty_st ht) ?_
          refine wp_iconst (v := 1) d_TC_item_58 rfl ?_
          refine wp_ireturn d_TC_item_59 rfl rfl ?_
          rw [nI_clamp (by omega)]
          exact kk t l a ht rfl hlen hl60 c_23 ha rfl
        · skip
          refine wp_bipush (v := (-13)) d_TC_item_42 (by decide) ?_
          refine wp_ireturn d_TC_item_44 rfl rfl ?_
          first
            | exact kp t l ht rfl hlen hl60 c_23 (fun a ha z => by rw [z] at c_30; exact absurd c_30 (nI_pos (by omega)))
            | exact kp t l ht rfl hlen hl60 c_23 (fun a ha z => by rw [z] at c_39; exact c_39 (nI_lt ha (by omega)))
    · skip
      refine wp_bipush (v := (-11)) d_TC_item_26 (by decide) ?_
      refine wp_ireturn d_TC_item_28 rfl rfl ?_
      exact kN t ht rfl c_23
set_option maxRecDepth 4000 in
theorem c_TC_read {y i : Int32} (hD : 2 ≤ D) (htp : ∀ t, t < 6 → ∃ l, l ≤ 60 ∧ K.1 (6 + t) 2 = nI l ∧ (K.1 (6 + t) 1 < 0 → l = 0)) (kn : ¬ (0 ≤ y ∧ y ≤ 5) → Q (some (.long (-9223372036854775808))) (HT K MZ r)) (kp : ∀ t l, t < 6 → y = nI t → K.1 (6 + t) 2 = nI l → l ≤ 60 → (∀ a, a < l → i ≠ nI a) → Q (some (.long (-9223372036854775808))) (HT K MZ r)) (kk : ∀ t l a, t < 6 → y = nI t → K.1 (6 + t) 2 = nI l → l ≤ 60 → a < l → i = nI a → Q (some (.long (K.2.2.2.2 t a))) (HT K MZ r)) : px_W G D 0 0 m_TC_read 0 (px_ent 4 [.ref 0, .int y, .int i]) [] (HT K MZ r) Q := by
  show px_W _ _ _ _ _ _ [some (.ref 0), some (.int y), some (.int i), none] [] _ _
  refine wp_iload_n d_TC_read_0 rfl rfl ?_
  refine wp_callS (M' := m_TC_isNoTape) (as := [_]) (D' := D - 1) (C1 := 0) (C2 := 0) (S1 := 0) (S2 := 0) d_TC_read_1 w_840 w_841 k_TC_isNoTape (Nat.le_of_ble_eq_true rfl) rfl (Nat.le_of_ble_eq_true rfl) (by omega) rfl rfl ?_
  refine c_TC_isNoTape (by omega)  (fun ht0 => ?_) (fun ht0 => ?_)
  · skip
    refine wp_if_eq (t := 11) d_TC_read_4 (by decide) (fun c_4 => (absurd c_4 (by decide))) (fun c_4 => ?_)
    refine wp_ldc2 d_TC_read_7 w_820 ?_
    refine wp_lreturn d_TC_read_10 rfl ?_
    exact kn ht0
  · skip
    refine wp_if_eq (t := 11) d_TC_read_4 (by decide) (fun c_4 => ?_) (fun c_4 => (absurd c_4 (by decide)))
    obtain ⟨t, ht, rfl⟩ := (i_rng (m := y) (n := 6) (by decide)).mp ⟨ht0.1, (i_lt (a := nI 6) (b := 5) rfl).mpr ht0.2⟩
    obtain ⟨l, hl60, hlen, hso⟩ := htp t ht
    refine wp_aload_n d_TC_read_11 rfl rfl rfl ?_
    refine gC_5 gf_TC_52_0 d_TC_read_12 ?_
    refine wp_iload_n d_TC_read_15 rfl rfl ?_
    refine lA_43 ht d_TC_read_16 ?_
    refine wp_astore_n (ls' := [_, _, _, _]) d_TC_read_17 rfl (by decide) rfl rfl ?_
    refine wp_iload_n d_TC_read_18 rfl rfl ?_
    refine wp_if_lt (t := 30) d_TC_read_19 (by decide) (fun c_19 => ?_) (fun c_19 => ?_)
    · skip
      refine wp_ldc2 d_TC_read_30 w_820 ?_
      refine wp_lreturn d_TC_read_33 rfl ?_
      first
        | exact kp t l ht rfl hlen hl60 (fun a ha z => by rw [z] at c_19; exact absurd c_19 (nI_pos (by omega)))
        | exact kp t l ht rfl hlen hl60 (fun a ha z => by rw [z] at c_27; exact c_27 (nI_lt ha (by omega)))
    · skip
      refine wp_iload_n d_TC_read_22 rfl rfl ?_
      refine wp_aload_n d_TC_read_23 rfl rfl rfl ?_
      refine gT_2 ht gf_TC_273_4 d_TC_read_24 ?_
      rw [hlen]
      refine wp_icmp_lt (t := 34) d_TC_read_27 (by decide) (fun c_27 => ?_) (fun c_27 => ?_)
      · skip
        obtain ⟨a, ha, rfl⟩ := (i_rng (m := i) (n := l) (by omega)).mp ⟨Int32.not_lt.mp c_19, c_27⟩
        refine wp_aload_n d_TC_read_34 rfl rfl rfl ?_
        refine gT_0 ht gf_TC_276_4 d_TC_read_35 ?_
        refine wp_iload_n d_TC_read_38 rfl rfl ?_
        refine wp_lald d_TC_read_39 (ty_at ht) (vp_in_nI (by omega) (by decide)) ?_
        refine wp_lreturn d_TC_read_40 rfl ?_
        rw [nI_clamp (by omega)]
        exact kk t l a ht rfl hlen hl60 ha rfl
      · skip
        refine wp_ldc2 d_TC_read_30 w_820 ?_
        refine wp_lreturn d_TC_read_33 rfl ?_
        first
          | exact kp t l ht rfl hlen hl60 (fun a ha z => by rw [z] at c_19; exact absurd c_19 (nI_pos (by omega)))
          | exact kp t l ht rfl hlen hl60 (fun a ha z => by rw [z] at c_27; exact c_27 (nI_lt ha (by omega)))
set_option maxRecDepth 4000 in
theorem c_TC_shift {y i y2 j2 n2 : Int32} (hD : 2 ≤ D) (htp : ∀ t, t < 6 → ∃ l, l ≤ 60 ∧ K.1 (6 + t) 2 = nI l ∧ (K.1 (6 + t) 1 < 0 → l = 0)) (kn : ¬ ((0 ≤ y ∧ y ≤ 5) ∧ (0 ≤ y2 ∧ y2 ≤ 5)) → Q (some (.int (-1))) (HT K MZ r)) (kN : ∀ t t2, t < 6 → y = nI t → t2 < 6 → y2 = nI t2 → (K.1 (6 + t) 1 = -1 ∨ K.1 (6 + t2) 1 = -1) → Q (some (.int (-11))) (HT K MZ r)) (kc : ∀ t t2, t < 6 → y = nI t → t2 < 6 → y2 = nI t2 → ¬ K.1 (6 + t) 1 = -1 → ¬ K.1 (6 + t2) 1 = -1 → ¬ K.1 (6 + t) 1 = K.1 (6 + t2) 1 → Q (some (.int (-12))) (HT K MZ r)) (kp : ∀ t t2 l l2, t < 6 → y = nI t → t2 < 6 → y2 = nI t2 → K.1 (6 + t) 2 = nI l → K.1 (6 + t2) 2 = nI l2 → l ≤ 60 → l2 ≤ 60 → ¬ K.1 (6 + t) 1 = -1 → ¬ K.1 (6 + t2) 1 = -1 → K.1 (6 + t) 1 = K.1 (6 + t2) 1 → (∀ a a2 c, i = nI a → j2 = nI a2 → n2 = nI c → a + c ≤ l → ¬ a2 + c ≤ l2) → Q (some (.int (-13))) (HT K MZ r)) (kk : ∀ t t2 l l2 a a2 c, t < 6 → y = nI t → t2 < 6 → y2 = nI t2 → K.1 (6 + t) 2 = nI l → K.1 (6 + t2) 2 = nI l2 → l ≤ 60 → l2 ≤ 60 → ¬ K.1 (6 + t) 1 = -1 → ¬ K.1 (6 + t2) 1 = -1 → K.1 (6 + t) 1 = K.1 (6 + t2) 1 → i = nI a → j2 = nI a2 → n2 = nI c → a + c ≤ l → a2 + c ≤ l2 → Q (some (.int (nI c))) (HT (kY K t2 (va_cpy (K.2.2.2.2 t) (K.2.2.2.2 t2) a a2 c)) MZ r)) : px_W G D 0 0 m_TC_shift 0 (px_ent 8 [.ref 0, .int y, .int i, .int y2, .int j2, .int n2]) [] (HT K MZ r) Q := by
  show px_W _ _ _ _ _ _ [some (.ref 0), some (.int y), some (.int i), some (.int y2), some (.int j2), some (.int n2), none, none] [] _ _
  refine wp_iload_n d_TC_shift_0 rfl rfl ?_
  refine wp_callS (M' := m_TC_isNoTape) (as := [_]) (D' := D - 1) (C1 := 0) (C2 := 0) (S1 := 0) (S2 := 0) d_TC_shift_1 w_840 w_841 k_TC_isNoTape (Nat.le_of_ble_eq_true rfl) rfl (Nat.le_of_ble_eq_true rfl) (by omega) rfl rfl ?_
  refine c_TC_isNoTape (by omega)  (fun ht0 => ?_) (fun ht0 => ?_)
  · skip
    refine wp_if_ne (t := 14) d_TC_shift_4 (by decide) (fun c_4 => ?_) (fun c_4 => (absurd c_4 (by decide)))
    refine wp_iconst (v := (-1)) d_TC_shift_14 rfl ?_
    refine wp_ireturn d_TC_shift_15 rfl rfl ?_
    first
      | exact kn (fun z => ht0 z.1)
      | exact kn (fun z => ht02 z.2)
  · skip
    refine wp_if_ne (t := 14) d_TC_shift_4 (by decide) (fun c_4 => (absurd c_4 (by decide))) (fun c_4 => ?_)
    refine wp_iload_n d_TC_shift_7 rfl rfl ?_
    refine wp_callS (M' := m_TC_isNoTape) (as := [_]) (D' := D - 1) (C1 := 0) (C2 := 0) (S1 := 0) (S2 := 0) d_TC_shift_8 w_840 w_841 k_TC_isNoTape (Nat.le_of_ble_eq_true rfl) rfl (Nat.le_of_ble_eq_true rfl) (by omega) rfl rfl ?_
    refine c_TC_isNoTape (by omega)  (fun ht02 => ?_) (fun ht02 => ?_)
    · skip
      refine wp_if_eq (t := 16) d_TC_shift_11 (by decide) (fun c_11 => (absurd c_11 (by decide))) (fun c_11 => ?_)
      refine wp_iconst (v := (-1)) d_TC_shift_14 rfl ?_
      refine wp_ireturn d_TC_shift_15 rfl rfl ?_
      first
        | exact kn (fun z => ht0 z.1)
        | exact kn (fun z => ht02 z.2)
    · skip
      refine wp_if_eq (t := 16) d_TC_shift_11 (by decide) (fun c_11 => ?_) (fun c_11 => (absurd c_11 (by decide)))
      obtain ⟨t, ht, rfl⟩ := (i_rng (m := y) (n := 6) (by decide)).mp ⟨ht0.1, (i_lt (a := nI 6) (b := 5) rfl).mpr ht0.2⟩
      obtain ⟨l, hl60, hlen, hso⟩ := htp t ht
      obtain ⟨t2, ht2, rfl⟩ := (i_rng (m := y2) (n := 6) (by decide)).mp ⟨ht02.1, (i_lt (a := nI 6) (b := 5) rfl).mpr ht02.2⟩
      obtain ⟨l2, hl260, hlen2, hso2⟩ := htp t2 ht2
      refine wp_aload_n d_TC_shift_16 rfl rfl rfl ?_
      refine gC_5 gf_TC_52_0 d_TC_shift_17 ?_
      refine wp_iload_n d_TC_shift_20 rfl rfl ?_
      refine lA_43 ht d_TC_shift_21 ?_
      refine wp_astore (ls' := [_, _, _, _, _, _, _, _]) d_TC_shift_22 (by decide) rfl rfl ?_
      refine wp_aload_n d_TC_shift_24 rfl rfl rfl ?_
      refine gC_5 gf_TC_52_0 d_TC_shift_25 ?_
      refine wp_iload_n d_TC_shift_28 rfl rfl ?_
      refine lA_43 ht2 d_TC_shift_29 ?_
      refine wp_astore (ls' := [_, _, _, _, _, _, _, _]) d_TC_shift_30 (by decide) rfl rfl ?_
      refine wp_aload d_TC_shift_32 rfl rfl ?_
      refine gT_1 ht gf_TC_270_4 d_TC_shift_34 ?_
      refine wp_iconst (v := (-1)) d_TC_shift_37 rfl ?_
      refine wp_icmp_eq (t := 50) d_TC_shift_38 (by decide) (fun c_38 => ?_) (fun c_38 => ?_)
      · skip
        refine wp_bipush (v := (-11)) d_TC_shift_50 (by decide) ?_
        refine wp_ireturn d_TC_shift_52 rfl rfl ?_
        first
          | exact kN t t2 ht rfl ht2 rfl (Or.inl c_38)
          | exact kN t t2 ht rfl ht2 rfl (Or.inr c_47)
      · skip
        refine wp_aload d_TC_shift_41 rfl rfl ?_
        refine gT_1 ht2 gf_TC_270_4 d_TC_shift_43 ?_
        refine wp_iconst (v := (-1)) d_TC_shift_46 rfl ?_
        refine wp_icmp_ne (t := 53) d_TC_shift_47 (by decide) (fun c_47 => ?_) (fun c_47 => ?_)
        · skip
          refine wp_aload d_TC_shift_53 rfl rfl ?_
          refine gT_1 ht gf_TC_270_4 d_TC_shift_55 ?_
          refine wp_aload d_TC_shift_58 rfl rfl ?_
          refine gT_1 ht2 gf_TC_270_4 d_TC_shift_60 ?_
          refine wp_icmp_eq (t := 69) d_TC_shift_63 (by decide) (fun c_63 => ?_) (fun c_63 => ?_)
          · skip
            refine wp_aload d_TC_shift_69 rfl rfl ?_
            refine wp_iload_n d_TC_shift_71 rfl rfl ?_
            refine wp_iload d_TC_shift_72 rfl ?_
            refine wp_callV (r := (R_4, T_4, 3)) (M' := m_Ta_has) (as := [_, _]) (D' := D - 1) (C1 := 0) (C2 := 0) (S1 := 0) (S2 := 0) d_TC_shift_74 rfl w_983 w_984 w_985 (ht_lo (hc_t _ _ _ ht)) k_Ta_has (Nat.le_of_ble_eq_true rfl) rfl (Nat.le_of_ble_eq_true rfl) (by omega) rfl rfl ?_
            refine c_Ta_has (by omega) ht hl60 hlen (fun a c za zc hac => ?_) (fun hno => ?_)
            · skip
              subst za; subst zc
              refine wp_if_eq (t := 92) d_TC_shift_77 (by decide) (fun c_77 => (absurd c_77 (by decide))) (fun c_77 => ?_)
              refine wp_aload d_TC_shift_80 rfl rfl ?_
              refine wp_iload d_TC_shift_82 rfl ?_
              refine wp_iload d_TC_shift_84 rfl ?_
              refine wp_callV (r := (R_4, T_4, 3)) (M' := m_Ta_has) (as := [_, _]) (D' := D - 1) (C1 := 0) (C2 := 0) (S1 := 0) (S2 := 0) d_TC_shift_86 rfl w_983 w_984 w_985 (ht_lo (hc_t _ _ _ ht2)) k_Ta_has (Nat.le_of_ble_eq_true rfl) rfl (Nat.le_of_ble_eq_true rfl) (by omega) rfl rfl ?_
              refine c_Ta_has (by omega) ht2 hl260 hlen2 (fun a2 c2 za zc hac2 => ?_) (fun hno => ?_)
              · skip
                subst za
                refine wp_if_ne (t := 95) d_TC_shift_89 (by decide) (fun c_89 => ?_) (fun c_89 => (absurd c_89 (by decide)))
                have ha31 : a < 2 ^ 31 ∨ 2 ^ 31 ≤ a := Nat.lt_or_ge a _
                have hc60 : c ≤ 60 := by omega
                have hcc : c = c2 := (nI_eq (by omega) (by omega)).mp zc
                subst hcc
                refine wp_aload d_TC_shift_95 rfl rfl ?_
                refine gT_0 ht gf_TC_276_4 d_TC_shift_97 ?_
                refine wp_iload_n d_TC_shift_100 rfl rfl ?_
                refine wp_aload d_TC_shift_101 rfl rfl ?_
                refine gT_0 ht2 gf_TC_276_4 d_TC_shift_103 ?_
                refine wp_iload d_TC_shift_106 rfl ?_
                refine wp_iload d_TC_shift_108 rfl ?_
                refine wp_copyl d_TC_shift_110 w_757 (ty_at ht) (ty_at ht2) (nI_pos (by omega)) (nI_pos (by omega)) (nI_pos (by omega)) (by rw [nI_clamp (by omega), nI_clamp (by omega)]; omega) (by rw [nI_clamp (by omega), nI_clamp (by omega)]; omega) (by omega) (Nat.le_of_ble_eq_true rfl) (ty_st ht2) ?_
                rw [nI_clamp (by omega), nI_clamp (by omega), nI_clamp (by omega)]
                refine wp_iload d_TC_shift_113 rfl ?_
                refine wp_ireturn d_TC_shift_115 rfl rfl ?_
                exact kk t t2 l l2 a a2 c ht rfl ht2 rfl hlen hlen2 hl60 hl260 c_38 c_47 c_63 rfl rfl rfl hac hac2
              · skip
                refine wp_if_ne (t := 95) d_TC_shift_89 (by decide) (fun c_89 => (absurd c_89 (by decide))) (fun c_89 => ?_)
                refine wp_bipush (v := (-13)) d_TC_shift_92 (by decide) ?_
                refine wp_ireturn d_TC_shift_94 rfl rfl ?_
                first
                  | exact kp t t2 l l2 ht rfl ht2 rfl hlen hlen2 hl60 hl260 c_38 c_47 c_63 (fun a b0 c z1 z2 z3 z4 z5 => hno a c z1 z3 z4)
                  | exact kp t t2 l l2 ht rfl ht2 rfl hlen hlen2 hl60 hl260 c_38 c_47 c_63 (fun a3 b0 c3 z1 z2 z3 z4 z5 => hno b0 c3 z2 z3 z5)
            · skip
              refine wp_if_eq (t := 92) d_TC_shift_77 (by decide) (fun c_77 => ?_) (fun c_77 => (absurd c_77 (by decide)))
              refine wp_bipush (v := (-13)) d_TC_shift_92 (by decide) ?_
              refine wp_ireturn d_TC_shift_94 rfl rfl ?_
              first
                | exact kp t t2 l l2 ht rfl ht2 rfl hlen hlen2 hl60 hl260 c_38 c_47 c_63 (fun a b0 c z1 z2 z3 z4 z5 => hno a c z1 z3 z4)
                | exact kp t t2 l l2 ht rfl ht2 rfl hlen hlen2 hl60 hl260 c_38 c_47 c_63 (fun a3 b0 c3 z1 z2 z3 z4 z5 => hno b0 c3 z2 z3 z5)
          · skip
            refine wp_bipush (v := (-12)) d_TC_shift_66 (by decide) ?_
            refine wp_ireturn d_TC_shift_68 rfl rfl ?_
            exact kc t t2 ht rfl ht2 rfl c_38 c_47 c_63
        · skip
          refine wp_bipush (v := (-11)) d_TC_shift_50 (by decide) ?_
          refine wp_ireturn d_TC_shift_52 rfl rfl ?_
          first
            | exact kN t t2 ht rfl ht2 rfl (Or.inl c_38)
            | exact kN t t2 ht rfl ht2 rfl (Or.inr c_47)
end TDL
