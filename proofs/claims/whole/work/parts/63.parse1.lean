/-! THE CLASS READS A TEXT: what it has made so far is in the list os -/
abbrev PZ (h0 : px_H) (c : Nat) (fs : List Value) (g : Nat → Int32) : px_H := (h0.set c (.inr (3, fs))).set (c + 1) (iA 100 g)
abbrev PS (h0 : px_H) (c n : Nat) (cc0 : Nat → Int32) (w : Int32 × Int32 × Int32) (p : Nat) (os : List Int32) : px_H := PZ h0 c (SCF c 42 (nI os.length) (nI n) (nI p) w.1 w.2.1 w.2.2) (fun j => os.getD j (cc0 j))
def ph_ok (h0 : px_H) (c : Nat) (f : Nat → Int32) : Prop := c + 1 < h0.length ∧ c ≠ 42 ∧ c + 1 ≠ 42 ∧ h0[42]? = some (.inl (.char, 100, .inl f))
def ph_tx (f : Nat → Int32) (T : Nat → Nat) (n : Nat) : Prop := n ≤ 100 ∧ ∀ j, j < n → T j < 128 ∧ f j = nI (T j)
section TP
variable {h0 : px_H} {c : Nat} {f : Nat → Int32} {fs fs' : List Value} {g g' : Nat → Int32}
theorem pz_c (hX : ph_ok h0 c f) : (PZ h0 c fs g)[c]? = some (.inr (3, fs)) := by
  rw [PZ, List.getElem?_set_ne (by omega)]
  exact List.getElem?_set_self (by have := hX.1; omega)
theorem pz_1 (hX : ph_ok h0 c f) : (PZ h0 c fs g)[c + 1]? = some (iA 100 g) := List.getElem?_set_self (by rw [List.length_set]; exact hX.1)
theorem pz_42 (hX : ph_ok h0 c f) : (PZ h0 c fs g)[42]? = some (.inl (.char, 100, .inl f)) := by
  rw [PZ, List.getElem?_set_ne hX.2.2.1, List.getElem?_set_ne hX.2.1]
  exact hX.2.2.2
theorem pz_sc (hX : ph_ok h0 c f) : (PZ h0 c fs g).set c (.inr (3, fs')) = PZ h0 c fs' g := by
  rw [PZ, List.set_comm _ _ (by omega), List.set_set]
theorem pz_s1 (hX : ph_ok h0 c f) : (PZ h0 c fs g).set (c + 1) (iA 100 g') = PZ h0 c fs g' := List.set_set _
end TP
theorem os_add {os : List Int32} {cc0 : Nat → Int32} {v : Int32} : upd (fun j => os.getD j (cc0 j)) os.length v = fun j => (os ++ [v]).getD j (cc0 j) := by
  funext j
  show (if j = os.length then v else os.getD j (cc0 j)) = _
  by_cases hj : j = os.length
  · rw [if_pos hj, hj, List.getD_eq_getElem?_getD, List.getElem?_append_right (Nat.le_refl _), Nat.sub_self]
    rfl
  · rw [if_neg hj, List.getD_eq_getElem?_getD, List.getD_eq_getElem?_getD]
    by_cases hl : j < os.length
    · rw [List.getElem?_append_left hl]
    · rw [List.getElem?_eq_none (by omega), List.getElem?_eq_none (by rw [List.length_append]; show os.length + 1 ≤ j; omega)]
theorem ix_let : ∀ t, t < 128 → ixo (sbt 1) (nI t) (px_len.getD 1 0) 0 = (match sp_let t with | some f => nI f | none => -1) := by decide +kernel
theorem ix_sg : ∀ t, t < 128 → ixo (sbt 2) (nI t) (px_len.getD 2 0) 0 = (if 60 ≤ t ∧ t ≤ 62 then nI (t - 60) else -1) := by decide +kernel
theorem nmb_1 : ∀ t, 48 ≤ t → t ≤ 57 → (if (-1 : Int32) < 0 then (0 : Int32) else -1) * 10 + nI t - 48 = nI (t - 48) := by
  have h : ∀ t, t < 58 → 48 ≤ t → (if (-1 : Int32) < 0 then (0 : Int32) else -1) * 10 + nI t - 48 = nI (t - 48) := by decide +kernel
  exact fun t h1 h2 => h t (by omega) h1
theorem nmb_2 : ∀ a, a < 10 → ∀ t, 48 ≤ t → t ≤ 57 → (if nI a < 0 then (0 : Int32) else nI a) * 10 + nI t - 48 = nI (10 * a + (t - 48)) := by
  have h : ∀ a, a < 10 → ∀ t, t < 58 → 48 ≤ t → (if nI a < 0 then (0 : Int32) else nI a) * 10 + nI t - 48 = nI (10 * a + (t - 48)) := by decide +kernel
  exact fun a ha t h1 h2 => h a ha t (by omega) h1
theorem enc_t : ∀ f, f < 6 → ∀ sg, sg < 3 → ∀ d, d < 100 → (nI f * 3 + nI sg) * 100 + nI d = tc_enc (1000 * f + 100 * sg + d) := by decide +kernel

section TPA
variable {G : px_G} {D : Nat} {h0 : px_H} {c n p : Nat} {cc0 f : Nat → Int32} {w : Int32 × Int32 × Int32} {os : List Int32} {T : Nat → Nat} {Q : Option Value → px_H → Prop}
set_option maxRecDepth 4000 in
theorem c_Sc_emit {v : Int32} (hD : 0 ≤ D) (hX : ph_ok h0 c f) (hos : os.length < 100) (k : Q (some (.int 1)) (PS h0 c n cc0 w p (os ++ [v]))) : px_W G D 0 0 m_Sc_emit 0 (px_ent 2 [.ref c, .int v]) [] (PS h0 c n cc0 w p os) Q := by
  show px_W _ _ _ _ _ _ [some (.ref c), some (.int v)] [] _ _
  refine wp_aload_n d_Sc_emit_0 rfl rfl rfl ?_
  refine wp_getf d_Sc_emit_1 gf_Sc_51_3 (pz_c hX) rfl ?_
  refine wp_aload_n d_Sc_emit_4 rfl rfl rfl ?_
  refine wp_getf d_Sc_emit_5 gf_Sc_9_3 (pz_c hX) rfl ?_
  refine wp_alen (t0 := 0) d_Sc_emit_8 (pz_1 hX) rfl (show Int32.ofNat 100 = nI 100 from rfl) ?_
  refine wp_icmp_lt (t := 14) d_Sc_emit_9 (by decide) (fun c_9 => ?_) (fun c_9 => absurd (nI_lt hos (by decide)) c_9)
  refine wp_aload_n d_Sc_emit_14 rfl rfl rfl ?_
  refine wp_getf d_Sc_emit_15 gf_Sc_9_3 (pz_c hX) rfl ?_
  refine wp_aload_n d_Sc_emit_18 rfl rfl rfl ?_
  refine wp_getf d_Sc_emit_19 gf_Sc_51_3 (pz_c hX) rfl ?_
  refine wp_iload_n d_Sc_emit_22 rfl rfl ?_
  skip
  refine wp_iast d_Sc_emit_23 (pz_1 hX) (vp_in_nI (by omega) (by decide)) (pz_s1 hX) ?_
  refine wp_aload_n d_Sc_emit_24 rfl rfl rfl ?_
  refine wp_dup d_Sc_emit_25 rfl ?_
  refine wp_getf d_Sc_emit_26 gf_Sc_51_3 (pz_c hX) rfl ?_
  refine wp_iconst (v := 1) d_Sc_emit_29 rfl ?_
  refine wp_iadd d_Sc_emit_30 ?_
  refine wp_putf d_Sc_emit_31 pgf_Sc_51_3 (pz_c hX) (Nat.le_of_ble_eq_true rfl) rfl rfl (pz_sc hX) ?_
  refine wp_iconst (v := 1) d_Sc_emit_34 rfl ?_
  refine wp_ireturn d_Sc_emit_35 rfl rfl ?_
  rw [nI_clamp (by omega), os_add] 
  rw [show nI os.length + 1 = nI (os ++ [v]).length from by rw [List.length_append]; exact nI_1 _]
  exact k
set_option maxRecDepth 4000 in
theorem c_Sc_passes {x : Nat} (hD : 0 ≤ D) (hX : ph_ok h0 c f) (hT : ph_tx f T n) (hpn : p ≤ n) (hx : x < 128) (kt : sp_is T n p x → Q (some (.int 1)) (PS h0 c n cc0 w (p + 1) os)) (kf : ¬ sp_is T n p x → Q (some (.int 0)) (PS h0 c n cc0 w p os)) : px_W G D 0 0 m_Sc_passes 0 (px_ent 2 [.ref c, .int (nI x)]) [] (PS h0 c n cc0 w p os) Q := by
  have hn := hT.1
  show px_W _ _ _ _ _ _ [some (.ref c), some (.int (nI x))] [] _ _
  refine wp_aload_n d_Sc_passes_0 rfl rfl rfl ?_
  refine wp_getf d_Sc_passes_1 gf_Sc_48_3 (pz_c hX) rfl ?_
  refine wp_aload_n d_Sc_passes_4 rfl rfl rfl ?_
  refine wp_getf d_Sc_passes_5 gf_Sc_45_3 (pz_c hX) rfl ?_
  refine wp_icmp_ge (t := 24) d_Sc_passes_8 (by decide) (fun c_8 => ?_) (fun c_8 => ?_)
  · skip
    refine wp_iconst (v := 0) d_Sc_passes_24 rfl ?_
    refine wp_ireturn d_Sc_passes_25 rfl rfl ?_
    first | exact kf (fun z => c_21 ((nI_eq (by omega) (by omega)).mpr z.2)) | exact kf (fun z => absurd (nI_lt z.1 (by omega)) (Int32.not_lt.mpr c_8))
  · skip
    have hlt : p < n := Decidable.of_not_not (fun z => c_8 (nI_le (by omega) (by omega)))
    have hTp := (hT.2 p hlt).1
    refine wp_aload_n d_Sc_passes_11 rfl rfl rfl ?_
    refine wp_getf d_Sc_passes_12 gf_Sc_38_3 (pz_c hX) rfl ?_
    refine wp_aload_n d_Sc_passes_15 rfl rfl rfl ?_
    refine wp_getf d_Sc_passes_16 gf_Sc_48_3 (pz_c hX) rfl ?_
    refine wp_cald d_Sc_passes_19 (pz_42 hX) (vp_in_nI (by omega) (by decide)) ?_
    rw [nI_clamp (by omega), (hT.2 _ (by omega)).2]
    refine wp_iload_n d_Sc_passes_20 rfl rfl ?_
    refine wp_icmp_eq (t := 26) d_Sc_passes_21 (by decide) (fun c_21 => ?_) (fun c_21 => ?_)
    · skip
      refine wp_aload_n d_Sc_passes_26 rfl rfl rfl ?_
      refine wp_dup d_Sc_passes_27 rfl ?_
      refine wp_getf d_Sc_passes_28 gf_Sc_48_3 (pz_c hX) rfl ?_
      refine wp_iconst (v := 1) d_Sc_passes_31 rfl ?_
      refine wp_iadd d_Sc_passes_32 ?_
      rw [nI_1 p]
      refine wp_putf d_Sc_passes_33 pgf_Sc_48_3 (pz_c hX) (Nat.le_of_ble_eq_true rfl) rfl rfl (pz_sc hX) ?_
      refine wp_iconst (v := 1) d_Sc_passes_36 rfl ?_
      refine wp_ireturn d_Sc_passes_37 rfl rfl ?_
      exact kt ⟨hlt, (nI_eq (by omega) (by omega)).mp c_21⟩
    · skip
      refine wp_iconst (v := 0) d_Sc_passes_24 rfl ?_
      refine wp_ireturn d_Sc_passes_25 rfl rfl ?_
      first | exact kf (fun z => c_21 ((nI_eq (by omega) (by omega)).mpr z.2)) | exact kf (fun z => absurd (nI_lt z.1 (by omega)) (Int32.not_lt.mpr c_8))
set_option maxRecDepth 4000 in
theorem c_Sc_readNumber  (hD : 1 ≤ D) (hX : ph_ok h0 c f) (hT : ph_tx f T n) (hpn : p ≤ n) (kt : ∀ d p', sp_num T n p = (some d, p') → Q (some (.int (nI d))) (PS h0 c n cc0 w p' os)) (kf : ∀ p', sp_num T n p = (none, p') → Q (some (.int (-1))) (PS h0 c n cc0 w p' os)) : px_W G D 0 0 m_Sc_readNumber 0 (px_ent 3 [.ref c]) [] (PS h0 c n cc0 w p os) Q := by
  have hn := hT.1
  show px_W _ _ _ _ _ _ [some (.ref c), none, none] [] _ _
  refine wp_iconst (v := (-1)) d_Sc_readNumber_0 rfl ?_
  refine wp_istore_n (ls' := [_, _, _]) d_Sc_readNumber_1 rfl (by decide) rfl ?_
  refine wp_iconst (v := (nI 0)) d_Sc_readNumber_2 rfl ?_
  refine wp_istore_n (ls' := [_, _, _]) d_Sc_readNumber_3 rfl (by decide) rfl ?_
  refine wp_iload_n d_Sc_readNumber_4 rfl rfl ?_
  refine wp_iconst (v := (nI 2)) d_Sc_readNumber_5 rfl ?_
  refine wp_icmp_ge (t := 88) d_Sc_readNumber_6 (by decide) (fun c_6 => absurd c_6 (by decide)) (fun c_6 => ?_)
  refine wp_aload_n d_Sc_readNumber_9 rfl rfl rfl ?_
  refine wp_getf d_Sc_readNumber_10 gf_Sc_48_3 (pz_c hX) rfl ?_
  refine wp_aload_n d_Sc_readNumber_13 rfl rfl rfl ?_
  refine wp_getf d_Sc_readNumber_14 gf_Sc_45_3 (pz_c hX) rfl ?_
  refine wp_icmp_ge (t := 48) d_Sc_readNumber_17 (by decide) (fun c_17 => ?_) (fun c_17 => ?_)
  · skip
    refine wp_iload_n d_Sc_readNumber_48 rfl rfl ?_
    refine wp_ireturn d_Sc_readNumber_49 rfl rfl ?_
    have nd : ¬ sp_dg T n p := fun z => absurd (nI_lt z.1 (by omega)) (Int32.not_lt.mpr c_17)
    rw [sp_num, if_neg nd] at kf
    exact kf _ rfl
  · skip
    have hlt : p < n := Decidable.of_not_not (fun z => c_17 (nI_le (by omega) (by omega)))
    have hTp := (hT.2 _ hlt).1
    refine wp_aload_n d_Sc_readNumber_20 rfl rfl rfl ?_
    refine wp_getf d_Sc_readNumber_21 gf_Sc_38_3 (pz_c hX) rfl ?_
    refine wp_aload_n d_Sc_readNumber_24 rfl rfl rfl ?_
    refine wp_getf d_Sc_readNumber_25 gf_Sc_48_3 (pz_c hX) rfl ?_
    refine wp_cald d_Sc_readNumber_28 (pz_42 hX) (vp_in_nI (by omega) (by decide)) ?_
    rw [nI_clamp (by omega), (hT.2 _ hlt).2]
    refine wp_bipush (v := (nI 48)) d_Sc_readNumber_29 (by decide) ?_
    refine wp_icmp_lt (t := 48) d_Sc_readNumber_31 (by decide) (fun c_31 => ?_) (fun c_31 => ?_)
    · skip
      refine wp_iload_n d_Sc_readNumber_48 rfl rfl ?_
      refine wp_ireturn d_Sc_readNumber_49 rfl rfl ?_
      have nd : ¬ sp_dg T n p := fun z => absurd c_31 (nI_nlt z.2.1 (by omega))
      rw [sp_num, if_neg nd] at kf
      exact kf _ rfl
    · skip
      refine wp_aload_n d_Sc_readNumber_34 rfl rfl rfl ?_
      refine wp_getf d_Sc_readNumber_35 gf_Sc_38_3 (pz_c hX) rfl ?_
      refine wp_aload_n d_Sc_readNumber_38 rfl rfl rfl ?_
      refine wp_getf d_Sc_readNumber_39 gf_Sc_48_3 (pz_c hX) rfl ?_
      refine wp_cald d_Sc_readNumber_42 (pz_42 hX) (vp_in_nI (by omega) (by decide)) ?_
      rw [nI_clamp (by omega), (hT.2 _ hlt).2]
      refine wp_bipush (v := (nI 57)) d_Sc_readNumber_43 (by decide) ?_
      refine wp_icmp_le (t := 50) d_Sc_readNumber_45 (by decide) (fun c_45 => ?_) (fun c_45 => ?_)
      · skip
        have d1 : sp_dg T n p := ⟨hlt, Decidable.of_not_not (fun z => c_31 (nI_lt (by omega) (by omega))), Decidable.of_not_not (fun z => absurd c_45 (fun y => absurd y (fun _ => z (nI_leI (by omega) (by omega) |>.mp c_45))))⟩
        have a1 := d1.2.1
        have a2 := d1.2.2
        refine wp_iload_n d_Sc_readNumber_50 rfl rfl ?_
        refine wp_iconst (v := 0) d_Sc_readNumber_51 rfl ?_
        refine wp_max d_Sc_readNumber_52 w_108 (Nat.le_of_ble_eq_true rfl) (by omega) ?_
        refine wp_bipush (v := 10) d_Sc_readNumber_55 (by decide) ?_
        refine wp_imul d_Sc_readNumber_57 ?_
        refine wp_aload_n d_Sc_readNumber_58 rfl rfl rfl ?_
        refine wp_getf d_Sc_readNumber_59 gf_Sc_38_3 (pz_c hX) rfl ?_
        refine wp_aload_n d_Sc_readNumber_62 rfl rfl rfl ?_
        refine wp_getf d_Sc_readNumber_63 gf_Sc_48_3 (pz_c hX) rfl ?_
        refine wp_cald d_Sc_readNumber_66 (pz_42 hX) (vp_in_nI (by omega) (by decide)) ?_
        rw [nI_clamp (by omega), (hT.2 _ hlt).2]
        refine wp_iadd d_Sc_readNumber_67 ?_
        refine wp_bipush (v := 48) d_Sc_readNumber_68 (by decide) ?_
        refine wp_isub d_Sc_readNumber_70 ?_
        rw [nmb_1 _ a1 a2]
        refine wp_istore_n (ls' := [_, _, _]) d_Sc_readNumber_71 rfl (by decide) rfl ?_
        refine wp_aload_n d_Sc_readNumber_72 rfl rfl rfl ?_
        refine wp_dup d_Sc_readNumber_73 rfl ?_
        refine wp_getf d_Sc_readNumber_74 gf_Sc_48_3 (pz_c hX) rfl ?_
        refine wp_iconst (v := 1) d_Sc_readNumber_77 rfl ?_
        refine wp_iadd d_Sc_readNumber_78 ?_
        rw [nI_1 p]
        refine wp_putf d_Sc_readNumber_79 pgf_Sc_48_3 (pz_c hX) (Nat.le_of_ble_eq_true rfl) rfl rfl (pz_sc hX) ?_
        refine wp_iinc (v := (nI 1)) (ls' := [_, _, _]) d_Sc_readNumber_82 (by decide) rfl rfl rfl ?_
        refine wp_goto (t := 4) d_Sc_readNumber_85 (by decide) ?_
        have hlt1 := hlt
        clear hlt hTp a1 a2 c_17 c_31
        refine wp_iload_n d_Sc_readNumber_4 rfl rfl ?_
        refine wp_iconst (v := (nI 2)) d_Sc_readNumber_5 rfl ?_
        refine wp_icmp_ge (t := 88) d_Sc_readNumber_6 (by decide) (fun c_6 => absurd c_6 (by decide)) (fun c_6 => ?_)
        refine wp_aload_n d_Sc_readNumber_9 rfl rfl rfl ?_
        refine wp_getf d_Sc_readNumber_10 gf_Sc_48_3 (pz_c hX) rfl ?_
        refine wp_aload_n d_Sc_readNumber_13 rfl rfl rfl ?_
        refine wp_getf d_Sc_readNumber_14 gf_Sc_45_3 (pz_c hX) rfl ?_
        refine wp_icmp_ge (t := 48) d_Sc_readNumber_17 (by decide) (fun c_17 => ?_) (fun c_17 => ?_)
        · skip
          refine wp_iload_n d_Sc_readNumber_48 rfl rfl ?_
          refine wp_ireturn d_Sc_readNumber_49 rfl rfl ?_
          have nd : ¬ sp_dg T n (p + 1) := fun z => absurd (nI_lt z.1 (by omega)) (Int32.not_lt.mpr c_17)
          have := kt (T p - 48) (p + 1) (by rw [sp_num, if_pos d1, if_neg nd])
          exact this
        · skip
          have hlt : (p + 1) < n := Decidable.of_not_not (fun z => c_17 (nI_le (by omega) (by omega)))
          have hTp := (hT.2 _ hlt).1
          refine wp_aload_n d_Sc_readNumber_20 rfl rfl rfl ?_
          refine wp_getf d_Sc_readNumber_21 gf_Sc_38_3 (pz_c hX) rfl ?_
          refine wp_aload_n d_Sc_readNumber_24 rfl rfl rfl ?_
          refine wp_getf d_Sc_readNumber_25 gf_Sc_48_3 (pz_c hX) rfl ?_
          refine wp_cald d_Sc_readNumber_28 (pz_42 hX) (vp_in_nI (by omega) (by decide)) ?_
          rw [nI_clamp (by omega), (hT.2 _ hlt).2]
          refine wp_bipush (v := (nI 48)) d_Sc_readNumber_29 (by decide) ?_
          refine wp_icmp_lt (t := 48) d_Sc_readNumber_31 (by decide) (fun c_31 => ?_) (fun c_31 => ?_)
          · skip
            refine wp_iload_n d_Sc_readNumber_48 rfl rfl ?_
            refine wp_ireturn d_Sc_readNumber_49 rfl rfl ?_
            have nd : ¬ sp_dg T n (p + 1) := fun z => absurd c_31 (nI_nlt z.2.1 (by omega))
            have := kt (T p - 48) (p + 1) (by rw [sp_num, if_pos d1, if_neg nd])
            exact this
          · skip
            refine wp_aload_n d_Sc_readNumber_34 rfl rfl rfl ?_
            refine wp_getf d_Sc_readNumber_35 gf_Sc_38_3 (pz_c hX) rfl ?_
            refine wp_aload_n d_Sc_readNumber_38 rfl rfl rfl ?_
            refine wp_getf d_Sc_readNumber_39 gf_Sc_48_3 (pz_c hX) rfl ?_
            refine wp_cald d_Sc_readNumber_42 (pz_42 hX) (vp_in_nI (by omega) (by decide)) ?_
            rw [nI_clamp (by omega), (hT.2 _ hlt).2]
            refine wp_bipush (v := (nI 57)) d_Sc_readNumber_43 (by decide) ?_
            refine wp_icmp_le (t := 50) d_Sc_readNumber_45 (by decide) (fun c_45 => ?_) (fun c_45 => ?_)
            · skip
              have d2 : sp_dg T n (p + 1) := ⟨hlt, Decidable.of_not_not (fun z => c_31 (nI_lt (by omega) (by omega))), Decidable.of_not_not (fun z => absurd c_45 (fun y => absurd y (fun _ => z (nI_leI (by omega) (by omega) |>.mp c_45))))⟩
              have a1 := d2.2.1
              have a2 := d2.2.2
              refine wp_iload_n d_Sc_readNumber_50 rfl rfl ?_
              refine wp_iconst (v := 0) d_Sc_readNumber_51 rfl ?_
              refine wp_max d_Sc_readNumber_52 w_108 (Nat.le_of_ble_eq_true rfl) (by omega) ?_
              refine wp_bipush (v := 10) d_Sc_readNumber_55 (by decide) ?_
              refine wp_imul d_Sc_readNumber_57 ?_
              refine wp_aload_n d_Sc_readNumber_58 rfl rfl rfl ?_
              refine wp_getf d_Sc_readNumber_59 gf_Sc_38_3 (pz_c hX) rfl ?_
              refine wp_aload_n d_Sc_readNumber_62 rfl rfl rfl ?_
              refine wp_getf d_Sc_readNumber_63 gf_Sc_48_3 (pz_c hX) rfl ?_
              refine wp_cald d_Sc_readNumber_66 (pz_42 hX) (vp_in_nI (by omega) (by decide)) ?_
              rw [nI_clamp (by omega), (hT.2 _ hlt).2]
              refine wp_iadd d_Sc_readNumber_67 ?_
              refine wp_bipush (v := 48) d_Sc_readNumber_68 (by decide) ?_
              refine wp_isub d_Sc_readNumber_70 ?_
              rw [nmb_2 _ (by have := d1.2; omega) _ a1 a2]
              refine wp_istore_n (ls' := [_, _, _]) d_Sc_readNumber_71 rfl (by decide) rfl ?_
              refine wp_aload_n d_Sc_readNumber_72 rfl rfl rfl ?_
              refine wp_dup d_Sc_readNumber_73 rfl ?_
              refine wp_getf d_Sc_readNumber_74 gf_Sc_48_3 (pz_c hX) rfl ?_
              refine wp_iconst (v := 1) d_Sc_readNumber_77 rfl ?_
              refine wp_iadd d_Sc_readNumber_78 ?_
              rw [nI_1 (p + 1)]
              refine wp_putf d_Sc_readNumber_79 pgf_Sc_48_3 (pz_c hX) (Nat.le_of_ble_eq_true rfl) rfl rfl (pz_sc hX) ?_
              refine wp_iinc (v := (nI 2)) (ls' := [_, _, _]) d_Sc_readNumber_82 (by decide) rfl rfl rfl ?_
              refine wp_goto (t := 4) d_Sc_readNumber_85 (by decide) ?_
              refine wp_iload_n d_Sc_readNumber_4 rfl rfl ?_
              refine wp_iconst (v := (nI 2)) d_Sc_readNumber_5 rfl ?_
              refine wp_icmp_ge (t := 88) d_Sc_readNumber_6 (by decide) (fun c_6 => ?_) (fun c_6 => absurd (show nI 2 ≤ nI 2 from Int32.le_refl _) c_6)
              refine wp_iload_n d_Sc_readNumber_88 rfl rfl ?_
              refine wp_ireturn d_Sc_readNumber_89 rfl rfl ?_
              exact kt _ _ (by rw [sp_num, if_pos d1, if_pos d2])
            · skip
              refine wp_iload_n d_Sc_readNumber_48 rfl rfl ?_
              refine wp_ireturn d_Sc_readNumber_49 rfl rfl ?_
              have nd : ¬ sp_dg T n (p + 1) := fun z => c_45 (nI_le z.2.2 (by omega))
              have := kt (T p - 48) (p + 1) (by rw [sp_num, if_pos d1, if_neg nd])
              exact this
      · skip
        refine wp_iload_n d_Sc_readNumber_48 rfl rfl ?_
        refine wp_ireturn d_Sc_readNumber_49 rfl rfl ?_
        have nd : ¬ sp_dg T n p := fun z => c_45 (nI_le z.2.2 (by omega))
        rw [sp_num, if_neg nd] at kf
        exact kf _ rfl
set_option maxRecDepth 4000 in
theorem c_Sc_readTest  (hD : 4 ≤ D) (hX : ph_ok h0 c f) (hT : ph_tx f T n) (hpn : p ≤ n) (hp : p < n) (hos : os.length < 100) (kt : ∀ t p', sp_test T n p = (some t, p') → Q (some (.int 1)) (PS h0 c n cc0 w p' (os ++ [tc_enc t]))) (kf : ∀ p', sp_test T n p = (none, p') → Q (some (.int 0)) (PS h0 c n cc0 w p' os)) : px_W G D 0 0 m_Sc_readTest 0 (px_ent 4 [.ref c]) [] (PS h0 c n cc0 w p os) Q := by
  have hn := hT.1
  show px_W _ _ _ _ _ _ [some (.ref c), none, none, none] [] _ _
  refine wp_ldcS (i := 1) rfl (by decide) d_Sc_readTest_0 ?_
  refine wp_aload_n d_Sc_readTest_2 rfl rfl rfl ?_
  refine wp_getf d_Sc_readTest_3 gf_Sc_38_3 (pz_c hX) rfl ?_
  refine wp_aload_n d_Sc_readTest_6 rfl rfl rfl ?_
  refine wp_getf d_Sc_readTest_7 gf_Sc_48_3 (pz_c hX) rfl ?_
  refine wp_cald d_Sc_readTest_10 (pz_42 hX) (vp_in_nI (by omega) (by decide)) ?_
  rw [nI_clamp (by omega), (hT.2 _ hp).2]
  have hTp := (hT.2 _ hp).1
  refine wp_callSTR (i := 1) (M' := m_Sg_indexOf_I) (as := [_]) (D' := D - 1) (C1 := 0) (C2 := 0) (S1 := 0) (S2 := 0) (by decide) d_Sc_readTest_11 w_600 w_601 w_602 k_Sg_indexOf_I (Nat.le_of_ble_eq_true rfl) rfl (Nat.le_of_ble_eq_true rfl) (by omega) rfl rfl ?_
  refine c_Sg_indexOf_I (by omega) (i := 1) (by decide) hTp ?_
  rw [ix_let _ hTp]
  cases hl : sp_let (T p) with
  | none =>
    show px_W _ _ _ _ _ _ _ (.int (-1) :: _) _ _
    refine wp_istore_n (ls' := [_, _, _, _]) d_Sc_readTest_14 rfl (by decide) rfl ?_
    refine wp_iload_n d_Sc_readTest_15 rfl rfl ?_
    refine wp_if_ge (t := 21) d_Sc_readTest_16 (by decide) (fun c_16 => (absurd c_16 (by decide))) (fun c_16 => ?_)
    refine wp_iconst (v := 0) d_Sc_readTest_19 rfl ?_
    refine wp_ireturn d_Sc_readTest_20 rfl rfl ?_
    first
      | (have hx := hfl
         exact absurd (nI_pos' (by omega)) c_16)
      | exact kf _ (by unfold sp_test; simp only [if_pos hp, hl])
  | some fl =>
    show px_W _ _ _ _ _ _ _ (.int (nI fl) :: _) _ _
    have hfl := sp_let_b hl
    refine wp_istore_n (ls' := [_, _, _, _]) d_Sc_readTest_14 rfl (by decide) rfl ?_
    refine wp_iload_n d_Sc_readTest_15 rfl rfl ?_
    refine wp_if_ge (t := 21) d_Sc_readTest_16 (by decide) (fun c_16 => ?_) (fun c_16 => ?_)
    · skip
      refine wp_aload_n d_Sc_readTest_21 rfl rfl rfl ?_
      refine wp_dup d_Sc_readTest_22 rfl ?_
      refine wp_getf d_Sc_readTest_23 gf_Sc_48_3 (pz_c hX) rfl ?_
      skip
      refine wp_iconst (v := 1) d_Sc_readTest_26 rfl ?_
      refine wp_iadd d_Sc_readTest_27 ?_
      rw [nI_1 p]
      refine wp_putf d_Sc_readTest_28 pgf_Sc_48_3 (pz_c hX) (Nat.le_of_ble_eq_true rfl) rfl rfl (pz_sc hX) ?_
      refine wp_aload_n d_Sc_readTest_31 rfl rfl rfl ?_
      refine wp_getf d_Sc_readTest_32 gf_Sc_48_3 (pz_c hX) rfl ?_
      refine wp_aload_n d_Sc_readTest_35 rfl rfl rfl ?_
      refine wp_getf d_Sc_readTest_36 gf_Sc_45_3 (pz_c hX) rfl ?_
      refine wp_icmp_ge (t := 59) d_Sc_readTest_39 (by decide) (fun c_39 => ?_) (fun c_39 => ?_)
      · skip
        refine wp_iconst (v := (-1)) d_Sc_readTest_59 rfl ?_
        refine wp_istore_n (ls' := [_, _, _, _]) d_Sc_readTest_60 rfl (by decide) rfl ?_
        refine wp_iload_n d_Sc_readTest_61 rfl rfl ?_
        refine wp_if_ge (t := 67) d_Sc_readTest_62 (by decide) (fun c_62 => (absurd c_62 (by decide))) (fun c_62 => ?_)
        refine wp_iconst (v := 0) d_Sc_readTest_65 rfl ?_
        refine wp_ireturn d_Sc_readTest_66 rfl rfl ?_
        first
          | (have hx := hs1
             exact absurd (nI_pos' (by omega)) c_62)
          | (have hc : ¬ (p + 1 < n ∧ 60 ≤ T (p + 1) ∧ T (p + 1) ≤ 62) := fun z => hs z.2
             exact kf _ (by unfold sp_test; simp only [if_pos hp, hl, if_neg hc]))
          | (have hc : ¬ (p + 1 < n ∧ 60 ≤ T (p + 1) ∧ T (p + 1) ≤ 62) := fun z => absurd (nI_lt z.1 (by omega)) (Int32.not_lt.mpr c_39)
             exact kf _ (by unfold sp_test; simp only [if_pos hp, hl, if_neg hc]))
      · skip
        have hlt : p + 1 < n := Decidable.of_not_not (fun z => c_39 (nI_le (by omega) (by omega)))
        have hTq := (hT.2 _ hlt).1
        refine wp_ldcS (i := 2) rfl (by decide) d_Sc_readTest_42 ?_
        refine wp_aload_n d_Sc_readTest_44 rfl rfl rfl ?_
        refine wp_getf d_Sc_readTest_45 gf_Sc_38_3 (pz_c hX) rfl ?_
        refine wp_aload_n d_Sc_readTest_48 rfl rfl rfl ?_
        refine wp_getf d_Sc_readTest_49 gf_Sc_48_3 (pz_c hX) rfl ?_
        refine wp_cald d_Sc_readTest_52 (pz_42 hX) (vp_in_nI (by omega) (by decide)) ?_
        rw [nI_clamp (by omega), (hT.2 _ hlt).2]
        refine wp_callSTR (i := 2) (M' := m_Sg_indexOf_I) (as := [_]) (D' := D - 1) (C1 := 0) (C2 := 0) (S1 := 0) (S2 := 0) (by decide) d_Sc_readTest_53 w_600 w_601 w_602 k_Sg_indexOf_I (Nat.le_of_ble_eq_true rfl) rfl (Nat.le_of_ble_eq_true rfl) (by omega) rfl rfl ?_
        refine c_Sg_indexOf_I (by omega) (i := 2) (by decide) hTq ?_
        rw [ix_sg _ hTq]
        by_cases hs : 60 ≤ T (p + 1) ∧ T (p + 1) ≤ 62
        · rw [if_pos hs]
          have hs1 := hs.1
          have hs2 := hs.2
          refine wp_goto (t := 60) d_Sc_readTest_56 (by decide) ?_
          refine wp_istore_n (ls' := [_, _, _, _]) d_Sc_readTest_60 rfl (by decide) rfl ?_
          refine wp_iload_n d_Sc_readTest_61 rfl rfl ?_
          refine wp_if_ge (t := 67) d_Sc_readTest_62 (by decide) (fun c_62 => ?_) (fun c_62 => ?_)
          · skip
            refine wp_aload_n d_Sc_readTest_67 rfl rfl rfl ?_
            refine wp_dup d_Sc_readTest_68 rfl ?_
            refine wp_getf d_Sc_readTest_69 gf_Sc_48_3 (pz_c hX) rfl ?_
            refine wp_iconst (v := 1) d_Sc_readTest_72 rfl ?_
            refine wp_iadd d_Sc_readTest_73 ?_
            rw [nI_1 (p + 1)]
            refine wp_putf d_Sc_readTest_74 pgf_Sc_48_3 (pz_c hX) (Nat.le_of_ble_eq_true rfl) rfl rfl (pz_sc hX) ?_
            refine wp_aload_n d_Sc_readTest_77 rfl rfl rfl ?_
            refine wp_callV (r := (R_3, T_3, 10)) (M' := m_Sc_readNumber) (as := []) (D' := D - 1) (C1 := 0) (C2 := 0) (S1 := 0) (S2 := 0) d_Sc_readTest_78 rfl w_579 w_581 w_6 (pz_c hX) k_Sc_readNumber (Nat.le_of_ble_eq_true rfl) rfl (Nat.le_of_ble_eq_true rfl) (by omega) rfl rfl ?_
            refine c_Sc_readNumber (by omega) hX hT (by omega) (fun d p' hr => ?_) (fun p' hr => ?_)
            · skip
              refine wp_istore_n (ls' := [_, _, _, _]) d_Sc_readTest_81 rfl (by decide) rfl ?_
              refine wp_iload_n d_Sc_readTest_82 rfl rfl ?_
              refine wp_if_lt (t := 107) d_Sc_readTest_83 (by decide) (fun c_83 => ?_) (fun c_83 => ?_)
              · skip
                refine wp_iconst (v := 0) d_Sc_readTest_107 rfl ?_
                refine wp_ireturn d_Sc_readTest_108 rfl rfl ?_
                first
                  | (have hx := (sp_num_b hr).1
                     exact absurd c_83 (nI_pos (by omega)))
                  | exact kf _ (by unfold sp_test; simp only [if_pos hp, hl, if_pos (And.intro hlt hs), hr])
              · skip
                refine wp_aload_n d_Sc_readTest_86 rfl rfl rfl ?_
                refine wp_iload_n d_Sc_readTest_87 rfl rfl ?_
                refine wp_iconst (v := 3) d_Sc_readTest_88 rfl ?_
                refine wp_imul d_Sc_readTest_89 ?_
                refine wp_iload_n d_Sc_readTest_90 rfl rfl ?_
                refine wp_iadd d_Sc_readTest_91 ?_
                refine wp_bipush (v := 100) d_Sc_readTest_92 (by decide) ?_
                refine wp_imul d_Sc_readTest_94 ?_
                refine wp_iload_n d_Sc_readTest_95 rfl rfl ?_
                refine wp_iadd d_Sc_readTest_96 ?_
                have hd := (sp_num_b hr).1
                rw [enc_t fl hfl (T (p + 1) - 60) (by omega) d hd]
                refine wp_callV (r := (R_3, T_3, 10)) (M' := m_Sc_emit) (as := [_]) (D' := D - 1) (C1 := 0) (C2 := 0) (S1 := 0) (S2 := 0) d_Sc_readTest_97 rfl w_656 w_658 w_11 (pz_c hX) k_Sc_emit (Nat.le_of_ble_eq_true rfl) rfl (Nat.le_of_ble_eq_true rfl) (by omega) rfl rfl ?_
                refine c_Sc_emit (by omega) hX (by omega) ?_
                refine wp_if_eq (t := 107) d_Sc_readTest_100 (by decide) (fun c_100 => (absurd c_100 (by decide))) (fun c_100 => ?_)
                refine wp_iconst (v := 1) d_Sc_readTest_103 rfl ?_
                refine wp_goto (t := 108) d_Sc_readTest_104 (by decide) ?_
                refine wp_ireturn d_Sc_readTest_108 rfl rfl ?_
                exact kt _ _ (by unfold sp_test; simp only [if_pos hp, hl, if_pos (And.intro hlt hs), hr])
            · skip
              refine wp_istore_n (ls' := [_, _, _, _]) d_Sc_readTest_81 rfl (by decide) rfl ?_
              refine wp_iload_n d_Sc_readTest_82 rfl rfl ?_
              refine wp_if_lt (t := 107) d_Sc_readTest_83 (by decide) (fun c_83 => ?_) (fun c_83 => (absurd c_83 (by decide)))
              refine wp_iconst (v := 0) d_Sc_readTest_107 rfl ?_
              refine wp_ireturn d_Sc_readTest_108 rfl rfl ?_
              first
                | (have hx := (sp_num_b hr).1
                   exact absurd c_83 (nI_pos (by omega)))
                | exact kf _ (by unfold sp_test; simp only [if_pos hp, hl, if_pos (And.intro hlt hs), hr])
          · skip
            refine wp_iconst (v := 0) d_Sc_readTest_65 rfl ?_
            refine wp_ireturn d_Sc_readTest_66 rfl rfl ?_
            first
              | (have hx := hs1
                 exact absurd (nI_pos' (by omega)) c_62)
              | (have hc : ¬ (p + 1 < n ∧ 60 ≤ T (p + 1) ∧ T (p + 1) ≤ 62) := fun z => hs z.2
                 exact kf _ (by unfold sp_test; simp only [if_pos hp, hl, if_neg hc]))
              | (have hc : ¬ (p + 1 < n ∧ 60 ≤ T (p + 1) ∧ T (p + 1) ≤ 62) := fun z => absurd (nI_lt z.1 (by omega)) (Int32.not_lt.mpr c_39)
                 exact kf _ (by unfold sp_test; simp only [if_pos hp, hl, if_neg hc]))
        · rw [if_neg hs]
          refine wp_goto (t := 60) d_Sc_readTest_56 (by decide) ?_
          refine wp_istore_n (ls' := [_, _, _, _]) d_Sc_readTest_60 rfl (by decide) rfl ?_
          refine wp_iload_n d_Sc_readTest_61 rfl rfl ?_
          refine wp_if_ge (t := 67) d_Sc_readTest_62 (by decide) (fun c_62 => (absurd c_62 (by decide))) (fun c_62 => ?_)
          refine wp_iconst (v := 0) d_Sc_readTest_65 rfl ?_
          refine wp_ireturn d_Sc_readTest_66 rfl rfl ?_
          first
            | (have hx := hs1
               exact absurd (nI_pos' (by omega)) c_62)
            | (have hc : ¬ (p + 1 < n ∧ 60 ≤ T (p + 1) ∧ T (p + 1) ≤ 62) := fun z => hs z.2
               exact kf _ (by unfold sp_test; simp only [if_pos hp, hl, if_neg hc]))
            | (have hc : ¬ (p + 1 < n ∧ 60 ≤ T (p + 1) ∧ T (p + 1) ≤ 62) := fun z => absurd (nI_lt z.1 (by omega)) (Int32.not_lt.mpr c_39)
               exact kf _ (by unfold sp_test; simp only [if_pos hp, hl, if_neg hc]))
    · skip
      refine wp_iconst (v := 0) d_Sc_readTest_19 rfl ?_
      refine wp_ireturn d_Sc_readTest_20 rfl rfl ?_
      first
        | (have hx := hfl
           exact absurd (nI_pos' (by omega)) c_16)
        | exact kf _ (by unfold sp_test; simp only [if_pos hp, hl])
end TPA
