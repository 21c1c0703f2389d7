def pS0 (G : px_G) (h0 : px_H) (c n : Nat) (cc0 : Nat → Int32) (w : Int32 × Int32 × Int32) (T : Nat → Nat) (q : Nat) : Prop := ∀ {D d p : Nat} {os : List Int32} {Q : Option Value → px_H → Prop}, 3 * (4 - d) + 6 ≤ D → d ≤ 4 → p ≤ n → os.length ≤ p → 4 * (n - p) + 1 ≤ q → (∀ l p', sp_P T n q 0 d p = (some l, p') → Q (some (.int 1)) (PS h0 c n cc0 w p' (os ++ l.map tc_enc))) → (∀ p' os', sp_P T n q 0 d p = (none, p') → Q (some (.int 0)) (PS h0 c n cc0 w p' os')) → px_W G D 0 0 m_Sc_readOne 0 (px_ent 3 [.ref c, .int (nI d)]) [] (PS h0 c n cc0 w p os) Q
def pS1 (G : px_G) (h0 : px_H) (c n : Nat) (cc0 : Nat → Int32) (w : Int32 × Int32 × Int32) (T : Nat → Nat) (q : Nat) : Prop := ∀ {D d p : Nat} {os : List Int32} {Q : Option Value → px_H → Prop}, 3 * (4 - d) + 7 ≤ D → d ≤ 4 → p ≤ n → os.length ≤ p → 4 * (n - p) + 2 ≤ q → (∀ l p', sp_P T n q 1 d p = (some l, p') → Q (some (.int 1)) (PS h0 c n cc0 w p' (os ++ l.map tc_enc))) → (∀ p' os', sp_P T n q 1 d p = (none, p') → Q (some (.int 0)) (PS h0 c n cc0 w p' os')) → px_W G D 0 0 m_Sc_readBoth 0 (px_ent 3 [.ref c, .int (nI d)]) [] (PS h0 c n cc0 w p os) Q
def pS2 (G : px_G) (h0 : px_H) (c n : Nat) (cc0 : Nat → Int32) (w : Int32 × Int32 × Int32) (T : Nat → Nat) (q : Nat) : Prop := ∀ {D d p : Nat} {os : List Int32} {Q : Option Value → px_H → Prop}, 3 * (4 - d) + 8 ≤ D → d ≤ 4 → p ≤ n → os.length ≤ p → 4 * (n - p) + 3 ≤ q → (∀ l p', sp_P T n q 2 d p = (some l, p') → Q (some (.int 1)) (PS h0 c n cc0 w p' (os ++ l.map tc_enc))) → (∀ p' os', sp_P T n q 2 d p = (none, p') → Q (some (.int 0)) (PS h0 c n cc0 w p' os')) → px_W G D 0 0 m_Sc_readEither 0 (px_ent 3 [.ref c, .int (nI d)]) [] (PS h0 c n cc0 w p os) Q
def pS3 (G : px_G) (h0 : px_H) (c n : Nat) (cc0 : Nat → Int32) (w : Int32 × Int32 × Int32) (T : Nat → Nat) (q : Nat) : Prop := ∀ {D d p k : Nat} {os : List Int32} {Q : Option Value → px_H → Prop}, 3 * (4 - d) + 7 ≤ D → d ≤ 4 → p ≤ n → os.length ≤ p → 4 * (n - p) + 1 ≤ q → k < p → (∀ l p', sp_P T n q 3 d p = (some l, p') → Q (some (.int 1)) (PS h0 c n cc0 w p' (os ++ l.map tc_enc))) → (∀ p' os', sp_P T n q 3 d p = (none, p') → Q (some (.int 0)) (PS h0 c n cc0 w p' os')) → px_W G D 0 0 m_Sc_readBoth 29 [some (.ref c), some (.int (nI d)), some (.int (nI k))] [] (PS h0 c n cc0 w p os) Q
def pS4 (G : px_G) (h0 : px_H) (c n : Nat) (cc0 : Nat → Int32) (w : Int32 × Int32 × Int32) (T : Nat → Nat) (q : Nat) : Prop := ∀ {D d p k : Nat} {os : List Int32} {Q : Option Value → px_H → Prop}, 3 * (4 - d) + 8 ≤ D → d ≤ 4 → p ≤ n → os.length ≤ p → 4 * (n - p) + 1 ≤ q → k < p → (∀ l p', sp_P T n q 4 d p = (some l, p') → Q (some (.int 1)) (PS h0 c n cc0 w p' (os ++ l.map tc_enc))) → (∀ p' os', sp_P T n q 4 d p = (none, p') → Q (some (.int 0)) (PS h0 c n cc0 w p' os')) → px_W G D 0 0 m_Sc_readEither 29 [some (.ref c), some (.int (nI d)), some (.int (nI k))] [] (PS h0 c n cc0 w p os) Q
theorem sp_P_n {T : Nat → Nat} {n q m d p p' : Nat} {l : List Nat} (hm : m ≤ 2) (h : sp_P T n q m d p = (some l, p')) : 1 ≤ l.length := by
  have h1 := (sp_P_d q m d p l p' h [] 0).1 hm
  cases l with
  | nil => cases h1
  | cons x l => exact Nat.succ_le_succ (Nat.zero_le _)
section TPB
variable {G : px_G} {h0 : px_H} {c n : Nat} {cc0 f : Nat → Int32} {w : Int32 × Int32 × Int32} {T : Nat → Nat}
set_option maxRecDepth 4000 in
theorem l_pS0 (hX : ph_ok h0 c f) (hT : ph_tx f T n) {q : Nat} (c_i0 : pS0 G h0 c n cc0 w T q) (c_i2 : pS2 G h0 c n cc0 w T q) : pS0 G h0 c n cc0 w T (q + 1) := by
  intro D d p os Q hD hd hpn hos hq kt kf
  have hn := hT.1
  show px_W _ _ _ _ _ _ [some (.ref c), some (.int (nI d)), none] [] _ _
  refine wp_aload_n d_Sc_readOne_0 rfl rfl rfl ?_
  refine wp_getf d_Sc_readOne_1 gf_Sc_48_3 (pz_c hX) rfl ?_
  refine wp_aload_n d_Sc_readOne_4 rfl rfl rfl ?_
  refine wp_getf d_Sc_readOne_5 gf_Sc_45_3 (pz_c hX) rfl ?_
  refine wp_icmp_lt (t := 13) d_Sc_readOne_8 (by decide) (fun c_8 => ?_) (fun c_8 => ?_)
  · skip
    have hlt : p < n := Decidable.of_not_not (fun z => absurd c_8 (nI_nlt (by omega) (by omega)))
    have hTp := (hT.2 _ hlt).1
    refine wp_aload_n d_Sc_readOne_13 rfl rfl rfl ?_
    refine wp_getf d_Sc_readOne_14 gf_Sc_38_3 (pz_c hX) rfl ?_
    refine wp_aload_n d_Sc_readOne_17 rfl rfl rfl ?_
    refine wp_getf d_Sc_readOne_18 gf_Sc_48_3 (pz_c hX) rfl ?_
    refine wp_cald d_Sc_readOne_21 (pz_42 hX) (vp_in_nI (by omega) (by decide)) ?_
    rw [nI_clamp (by omega), (hT.2 _ hlt).2]
    refine wp_bipush (v := (nI 33)) d_Sc_readOne_22 (by decide) ?_
    refine wp_icmp_ne (t := 31) d_Sc_readOne_24 (by decide) (fun c_24 => ?_) (fun c_24 => ?_)
    · skip
      have h33n : ¬ sp_is T n p 33 := fun z => c_24 ((nI_eq (by omega) (by decide)).mpr z.2)
      refine wp_iconst (v := 0) d_Sc_readOne_31 rfl ?_
      refine wp_istore_n (ls' := [_, _, _]) d_Sc_readOne_32 rfl (by decide) rfl ?_
      refine wp_iload_n d_Sc_readOne_33 rfl rfl ?_
      refine wp_if_ne (t := 56) d_Sc_readOne_34 (by decide) (fun c_34 => (absurd c_34 (by decide))) (fun c_34 => ?_)
      refine wp_aload_n d_Sc_readOne_37 rfl rfl rfl ?_
      refine wp_getf d_Sc_readOne_38 gf_Sc_38_3 (pz_c hX) rfl ?_
      refine wp_aload_n d_Sc_readOne_41 rfl rfl rfl ?_
      refine wp_getf d_Sc_readOne_42 gf_Sc_48_3 (pz_c hX) rfl ?_
      refine wp_cald d_Sc_readOne_45 (pz_42 hX) (vp_in_nI (by omega) (by decide)) ?_
      rw [nI_clamp (by omega), (hT.2 _ hlt).2]
      refine wp_bipush (v := (nI 40)) d_Sc_readOne_46 (by decide) ?_
      refine wp_icmp_eq (t := 56) d_Sc_readOne_48 (by decide) (fun c_48 => ?_) (fun c_48 => ?_)
      · skip
        try have h40 : sp_is T n p 40 := ⟨hlt, (nI_eq (by omega) (by decide)).mp c_48⟩
        refine wp_iload_n d_Sc_readOne_56 rfl rfl ?_
        refine wp_iconst (v := (nI 4)) d_Sc_readOne_57 rfl ?_
        refine wp_icmp_lt (t := 63) d_Sc_readOne_58 (by decide) (fun c_58 => ?_) (fun c_58 => ?_)
        · skip
          have hd4 : ¬ 4 ≤ d := fun z => absurd c_58 (nI_nlt z (by omega))
          refine wp_aload_n d_Sc_readOne_63 rfl rfl rfl ?_
          refine wp_dup d_Sc_readOne_64 rfl ?_
          refine wp_getf d_Sc_readOne_65 gf_Sc_48_3 (pz_c hX) rfl ?_
          refine wp_iconst (v := 1) d_Sc_readOne_68 rfl ?_
          refine wp_iadd d_Sc_readOne_69 ?_
          rw [nI_1 p]
          refine wp_putf d_Sc_readOne_70 pgf_Sc_48_3 (pz_c hX) (Nat.le_of_ble_eq_true rfl) rfl rfl (pz_sc hX) ?_
          refine wp_iload_n d_Sc_readOne_73 rfl rfl ?_
          refine wp_if_eq (t := 101) d_Sc_readOne_74 (by decide) (fun c_74 => ?_) (fun c_74 => (absurd c_74 (by decide)))
          refine wp_aload_n d_Sc_readOne_101 rfl rfl rfl ?_
          refine wp_iload_n d_Sc_readOne_102 rfl rfl ?_
          refine wp_iconst (v := 1) d_Sc_readOne_103 rfl ?_
          refine wp_iadd d_Sc_readOne_104 ?_
          rw [nI_1 d]
          refine wp_callV (r := (R_3, T_3, 10)) (M' := m_Sc_readEither) (as := [_]) (D' := D - 1) (C1 := 0) (C2 := 0) (S1 := 0) (S2 := 0) d_Sc_readOne_105 rfl w_583 w_585 w_7 (pz_c hX) k_Sc_readEither (Nat.le_of_ble_eq_true rfl) rfl (Nat.le_of_ble_eq_true rfl) (by omega) rfl rfl ?_
          refine c_i2 (by omega) (by omega) (by omega) (by omega) (by omega) (fun l p' hr => ?_) (fun p' os' hr => ?_)
          · skip
            have hb := sp_P_b _ _ _ _ _ _ (by omega) hr
            have hl1 := sp_P_n (by decide) hr
            refine wp_if_eq (t := 124) d_Sc_readOne_108 (by decide) (fun c_108 => (absurd c_108 (by decide))) (fun c_108 => ?_)
            refine wp_aload_n d_Sc_readOne_111 rfl rfl rfl ?_
            refine wp_bipush (v := 41) d_Sc_readOne_112 (by decide) ?_
            refine wp_callV (r := (R_3, T_3, 10)) (M' := m_Sc_passes) (as := [_]) (D' := D - 1) (C1 := 0) (C2 := 0) (S1 := 0) (S2 := 0) d_Sc_readOne_114 rfl w_575 w_577 w_5 (pz_c hX) k_Sc_passes (Nat.le_of_ble_eq_true rfl) rfl (Nat.le_of_ble_eq_true rfl) (by omega) rfl rfl ?_
            refine c_Sc_passes (by omega) hX hT (by omega) (by decide) (fun hi => ?_) (fun hi => ?_)
            · skip
              refine wp_if_eq (t := 124) d_Sc_readOne_117 (by decide) (fun c_117 => (absurd c_117 (by decide))) (fun c_117 => ?_)
              refine wp_iconst (v := 1) d_Sc_readOne_120 rfl ?_
              refine wp_goto (t := 125) d_Sc_readOne_121 (by decide) ?_
              refine wp_ireturn d_Sc_readOne_125 rfl rfl ?_
              exact kt l _ (by rw [sp_P, if_pos rfl, if_neg h33n, if_pos h40, if_neg hd4]; simp only [hr, if_pos hi])
            · skip
              refine wp_if_eq (t := 124) d_Sc_readOne_117 (by decide) (fun c_117 => ?_) (fun c_117 => (absurd c_117 (by decide)))
              refine wp_iconst (v := 0) d_Sc_readOne_124 rfl ?_
              refine wp_ireturn d_Sc_readOne_125 rfl rfl ?_
              first
                | (have hx := hi
                   exact kf _ _ (by rw [sp_P, if_pos rfl, if_neg h33n, if_pos h40, if_neg hd4]; simp only [hr, if_neg hi]))
                | exact kf _ _ (by rw [sp_P, if_pos rfl, if_neg h33n, if_pos h40, if_neg hd4]; simp only [hr])
          · skip
            refine wp_if_eq (t := 124) d_Sc_readOne_108 (by decide) (fun c_108 => ?_) (fun c_108 => (absurd c_108 (by decide)))
            refine wp_iconst (v := 0) d_Sc_readOne_124 rfl ?_
            refine wp_ireturn d_Sc_readOne_125 rfl rfl ?_
            first
              | (have hx := hi
                 exact kf _ _ (by rw [sp_P, if_pos rfl, if_neg h33n, if_pos h40, if_neg hd4]; simp only [hr, if_neg hi]))
              | exact kf _ _ (by rw [sp_P, if_pos rfl, if_neg h33n, if_pos h40, if_neg hd4]; simp only [hr])
        · skip
          have hd4 : 4 ≤ d := Nat.le_of_not_lt (fun z => c_58 (nI_lt z (by decide)))
          refine wp_iconst (v := 0) d_Sc_readOne_61 rfl ?_
          refine wp_ireturn d_Sc_readOne_62 rfl rfl ?_
          first
            | (have hx := h33
               exact kf _ _ (by rw [sp_P, if_pos rfl, if_pos h33, if_pos hd4]))
            | (have hx := h40
               exact kf _ _ (by rw [sp_P, if_pos rfl, if_neg h33n, if_pos h40, if_pos hd4]))
      · skip
        have h40n : ¬ sp_is T n p 40 := fun z => c_48 ((nI_eq (by omega) (by decide)).mpr z.2)
        refine wp_aload_n d_Sc_readOne_51 rfl rfl rfl ?_
        refine wp_callV (r := (R_3, T_3, 10)) (M' := m_Sc_readTest) (as := []) (D' := D - 1) (C1 := 0) (C2 := 0) (S1 := 0) (S2 := 0) d_Sc_readOne_52 rfl w_595 w_597 w_10 (pz_c hX) k_Sc_readTest (Nat.le_of_ble_eq_true rfl) rfl (Nat.le_of_ble_eq_true rfl) (by omega) rfl rfl ?_
        refine c_Sc_readTest (by omega) hX hT (by omega) hlt (by omega) (fun t p' hr => ?_) (fun p' hr => ?_)
        · skip
          refine wp_ireturn d_Sc_readOne_55 rfl rfl ?_
          exact kt [t] _ (by rw [sp_P, if_pos rfl, if_neg h33n, if_neg h40n]; simp only [hr])
        · skip
          refine wp_ireturn d_Sc_readOne_55 rfl rfl ?_
          exact kf _ _ (by rw [sp_P, if_pos rfl, if_neg h33n, if_neg h40n]; simp only [hr])
    · skip
      have h33 : sp_is T n p 33 := ⟨hlt, (nI_eq (by omega) (by decide)).mp c_24⟩
      refine wp_iconst (v := 1) d_Sc_readOne_27 rfl ?_
      refine wp_goto (t := 32) d_Sc_readOne_28 (by decide) ?_
      refine wp_istore_n (ls' := [_, _, _]) d_Sc_readOne_32 rfl (by decide) rfl ?_
      refine wp_iload_n d_Sc_readOne_33 rfl rfl ?_
      refine wp_if_ne (t := 56) d_Sc_readOne_34 (by decide) (fun c_34 => ?_) (fun c_34 => (absurd c_34 (by decide)))
      try have h40 : sp_is T n p 40 := ⟨hlt, (nI_eq (by omega) (by decide)).mp c_48⟩
      refine wp_iload_n d_Sc_readOne_56 rfl rfl ?_
      refine wp_iconst (v := (nI 4)) d_Sc_readOne_57 rfl ?_
      refine wp_icmp_lt (t := 63) d_Sc_readOne_58 (by decide) (fun c_58 => ?_) (fun c_58 => ?_)
      · skip
        have hd4 : ¬ 4 ≤ d := fun z => absurd c_58 (nI_nlt z (by omega))
        refine wp_aload_n d_Sc_readOne_63 rfl rfl rfl ?_
        refine wp_dup d_Sc_readOne_64 rfl ?_
        refine wp_getf d_Sc_readOne_65 gf_Sc_48_3 (pz_c hX) rfl ?_
        refine wp_iconst (v := 1) d_Sc_readOne_68 rfl ?_
        refine wp_iadd d_Sc_readOne_69 ?_
        rw [nI_1 p]
        refine wp_putf d_Sc_readOne_70 pgf_Sc_48_3 (pz_c hX) (Nat.le_of_ble_eq_true rfl) rfl rfl (pz_sc hX) ?_
        refine wp_iload_n d_Sc_readOne_73 rfl rfl ?_
        refine wp_if_eq (t := 101) d_Sc_readOne_74 (by decide) (fun c_74 => (absurd c_74 (by decide))) (fun c_74 => ?_)
        refine wp_aload_n d_Sc_readOne_77 rfl rfl rfl ?_
        refine wp_iload_n d_Sc_readOne_78 rfl rfl ?_
        refine wp_iconst (v := 1) d_Sc_readOne_79 rfl ?_
        refine wp_iadd d_Sc_readOne_80 ?_
        rw [nI_1 d]
        refine wp_callV (r := (R_3, T_3, 10)) (M' := m_Sc_readOne) (as := [_]) (D' := D - 1) (C1 := 0) (C2 := 0) (S1 := 0) (S2 := 0) d_Sc_readOne_81 rfl w_591 w_593 w_9 (pz_c hX) k_Sc_readOne (Nat.le_of_ble_eq_true rfl) rfl (Nat.le_of_ble_eq_true rfl) (by omega) rfl rfl ?_
        refine c_i0 (by omega) (by omega) (by omega) (by omega) (by omega) (fun l p' hr => ?_) (fun p' os' hr => ?_)
        · skip
          have hb := sp_P_b _ _ _ _ _ _ (by omega) hr
          have hl1 := sp_P_n (by decide) hr
          refine wp_if_eq (t := 99) d_Sc_readOne_84 (by decide) (fun c_84 => (absurd c_84 (by decide))) (fun c_84 => ?_)
          refine wp_aload_n d_Sc_readOne_87 rfl rfl rfl ?_
          refine wp_iconst (v := (tc_enc 6000)) d_Sc_readOne_88 rfl ?_
          refine wp_callV (r := (R_3, T_3, 10)) (M' := m_Sc_emit) (as := [_]) (D' := D - 1) (C1 := 0) (C2 := 0) (S1 := 0) (S2 := 0) d_Sc_readOne_89 rfl w_656 w_658 w_11 (pz_c hX) k_Sc_emit (Nat.le_of_ble_eq_true rfl) rfl (Nat.le_of_ble_eq_true rfl) (by omega) rfl rfl ?_
          refine c_Sc_emit (by omega) hX (by simp only [List.length_append, List.length_map]; omega) ?_
          refine wp_if_eq (t := 99) d_Sc_readOne_92 (by decide) (fun c_92 => (absurd c_92 (by decide))) (fun c_92 => ?_)
          refine wp_iconst (v := 1) d_Sc_readOne_95 rfl ?_
          refine wp_goto (t := 100) d_Sc_readOne_96 (by decide) ?_
          refine wp_ireturn d_Sc_readOne_100 rfl rfl ?_
          have := kt (l ++ [6000]) p' (by rw [sp_P, if_pos rfl, if_pos h33, if_neg hd4]; simp only [hr])
          rw [List.map_append, ← List.append_assoc] at this
          exact this
        · skip
          refine wp_if_eq (t := 99) d_Sc_readOne_84 (by decide) (fun c_84 => ?_) (fun c_84 => (absurd c_84 (by decide)))
          refine wp_iconst (v := 0) d_Sc_readOne_99 rfl ?_
          refine wp_ireturn d_Sc_readOne_100 rfl rfl ?_
          exact kf _ _ (by rw [sp_P, if_pos rfl, if_pos h33, if_neg hd4]; simp only [hr])
      · skip
        have hd4 : 4 ≤ d := Nat.le_of_not_lt (fun z => c_58 (nI_lt z (by decide)))
        refine wp_iconst (v := 0) d_Sc_readOne_61 rfl ?_
        refine wp_ireturn d_Sc_readOne_62 rfl rfl ?_
        first
          | (have hx := h33
             exact kf _ _ (by rw [sp_P, if_pos rfl, if_pos h33, if_pos hd4]))
          | (have hx := h40
             exact kf _ _ (by rw [sp_P, if_pos rfl, if_neg h33n, if_pos h40, if_pos hd4]))
  · skip
    refine wp_iconst (v := 0) d_Sc_readOne_11 rfl ?_
    refine wp_ireturn d_Sc_readOne_12 rfl rfl ?_
    exact kf _ _ (by
      have g33 : ¬ sp_is T n p 33 := fun z => c_8 (nI_lt z.1 (by omega))
      have g40 : ¬ sp_is T n p 40 := fun z => c_8 (nI_lt z.1 (by omega))
      have gl : ¬ p < n := fun z => c_8 (nI_lt z (by omega))
      rw [sp_P, if_pos rfl, if_neg g33, if_neg g40]
      simp only [sp_test, if_neg gl])
set_option maxRecDepth 4000 in
theorem l_pS1 (hX : ph_ok h0 c f) (hT : ph_tx f T n) {q : Nat} (c_i0 : pS0 G h0 c n cc0 w T q) (c_i3 : pS3 G h0 c n cc0 w T q) : pS1 G h0 c n cc0 w T (q + 1) := by
  intro D d p os Q hD hd hpn hos hq kt kf
  have hn := hT.1
  show px_W _ _ _ _ _ _ [some (.ref c), some (.int (nI d)), none] [] _ _
  refine wp_iconst (v := (nI 0)) d_Sc_readBoth_0 rfl ?_
  refine wp_istore_n (ls' := [_, _, _]) d_Sc_readBoth_1 rfl (by decide) rfl ?_
  refine wp_iload_n d_Sc_readBoth_2 rfl rfl ?_
  refine wp_bipush (v := (nI 100)) d_Sc_readBoth_3 (by decide) ?_
  refine wp_icmp_ge (t := 46) d_Sc_readBoth_5 (by decide) (fun c_5 => (absurd c_5 (by decide))) (fun c_5 => ?_)
  refine wp_aload_n d_Sc_readBoth_8 rfl rfl rfl ?_
  refine wp_iload_n d_Sc_readBoth_9 rfl rfl ?_
  refine wp_callV (r := (R_3, T_3, 10)) (M' := m_Sc_readOne) (as := [_]) (D' := D - 1) (C1 := 0) (C2 := 0) (S1 := 0) (S2 := 0) d_Sc_readBoth_10 rfl w_591 w_593 w_9 (pz_c hX) k_Sc_readOne (Nat.le_of_ble_eq_true rfl) rfl (Nat.le_of_ble_eq_true rfl) (by omega) rfl rfl ?_
  refine c_i0 (by omega) (by omega) (by omega) (by omega) (by omega) (fun l p' hr => ?_) (fun p' os' hr => ?_)
  · skip
    have hb := sp_P_b _ _ _ _ _ _ (by omega) hr
    have hl1 := sp_P_n (by decide) hr
    refine wp_if_ne (t := 18) d_Sc_readBoth_13 (by decide) (fun c_13 => ?_) (fun c_13 => (absurd c_13 (by decide)))
    refine wp_iload_n d_Sc_readBoth_18 rfl rfl ?_
    refine wp_if_le (t := 29) d_Sc_readBoth_19 (by decide) (fun c_19 => ?_) (fun c_19 => (absurd c_19 (by decide)))
    refine c_i3 (k := 0) (by omega) (by omega) (by omega) (by simp only [List.length_append, List.length_map, List.length_cons, List.length_nil]; omega) (by omega) (by omega) (fun l2 p2 h2 => ?_) (fun p2 os2 h2 => ?_)
    · have := kt (l ++ l2) p2 (by rw [sp_P, if_neg (by decide), if_pos rfl]; simp only [hr, h2])
      rw [List.map_append, ← List.append_assoc] at this
      exact this
    · exact kf _ _ (by rw [sp_P, if_neg (by decide), if_pos rfl]; simp only [hr, h2])
  · skip
    refine wp_if_ne (t := 18) d_Sc_readBoth_13 (by decide) (fun c_13 => (absurd c_13 (by decide))) (fun c_13 => ?_)
    refine wp_iconst (v := 0) d_Sc_readBoth_16 rfl ?_
    refine wp_ireturn d_Sc_readBoth_17 rfl rfl ?_
    exact kf _ _ (by rw [sp_P, if_neg (by decide), if_pos rfl]; simp only [hr])
set_option maxRecDepth 4000 in
theorem l_pS3 (hX : ph_ok h0 c f) (hT : ph_tx f T n) {q : Nat} (c_i0 : pS0 G h0 c n cc0 w T q) (c_i3 : pS3 G h0 c n cc0 w T q) : pS3 G h0 c n cc0 w T (q + 1) := by
  intro D d p k os Q hD hd hpn hos hq hk kt kf
  have hn := hT.1
  refine wp_aload_n d_Sc_readBoth_29 rfl rfl rfl ?_
  refine wp_bipush (v := (nI 38)) d_Sc_readBoth_30 (by decide) ?_
  refine wp_callV (r := (R_3, T_3, 10)) (M' := m_Sc_passes) (as := [_]) (D' := D - 1) (C1 := 0) (C2 := 0) (S1 := 0) (S2 := 0) d_Sc_readBoth_32 rfl w_575 w_577 w_5 (pz_c hX) k_Sc_passes (Nat.le_of_ble_eq_true rfl) rfl (Nat.le_of_ble_eq_true rfl) (by omega) rfl rfl ?_
  refine c_Sc_passes (by omega) hX hT (by omega) (by decide) (fun hi => ?_) (fun hi => ?_)
  · skip
    refine wp_if_ne (t := 40) d_Sc_readBoth_35 (by decide) (fun c_35 => ?_) (fun c_35 => (absurd c_35 (by decide)))
    have hlt := hi.1
    refine wp_iinc (v := (nI (k + 1))) (ls' := [_, _, _]) d_Sc_readBoth_40 (by decide) rfl (nI_1 k) rfl ?_
    refine wp_goto (t := 2) d_Sc_readBoth_43 (by decide) ?_
    refine wp_iload_n d_Sc_readBoth_2 rfl rfl ?_
    refine wp_bipush (v := (nI 100)) d_Sc_readBoth_3 (by decide) ?_
    refine wp_icmp_ge (t := 46) d_Sc_readBoth_5 (by decide) (fun c_5 => absurd c_5 (nI_ge (show k + 1 < 100 by omega) (by decide))) (fun c_5 => ?_)
    refine wp_aload_n d_Sc_readBoth_8 rfl rfl rfl ?_
    refine wp_iload_n d_Sc_readBoth_9 rfl rfl ?_
    refine wp_callV (r := (R_3, T_3, 10)) (M' := m_Sc_readOne) (as := [_]) (D' := D - 1) (C1 := 0) (C2 := 0) (S1 := 0) (S2 := 0) d_Sc_readBoth_10 rfl w_591 w_593 w_9 (pz_c hX) k_Sc_readOne (Nat.le_of_ble_eq_true rfl) rfl (Nat.le_of_ble_eq_true rfl) (by omega) rfl rfl ?_
    refine c_i0 (by omega) (by omega) (by omega) (by omega) (by omega) (fun l p' hr => ?_) (fun p' os' hr => ?_)
    · skip
      have hb := sp_P_b _ _ _ _ _ _ (by omega) hr
      have hl1 := sp_P_n (by decide) hr
      refine wp_if_ne (t := 18) d_Sc_readBoth_13 (by decide) (fun c_13 => ?_) (fun c_13 => (absurd c_13 (by decide)))
      skip
      refine wp_iload_n d_Sc_readBoth_18 rfl rfl ?_
      refine wp_if_le (t := 29) d_Sc_readBoth_19 (by decide) (fun c_19 => absurd (show nI (k + 1) ≤ nI 0 from c_19) (fun z => absurd ((nI_leI (by omega) (by decide)).mp z) (by omega))) (fun c_19 => ?_)
      refine wp_aload_n d_Sc_readBoth_22 rfl rfl rfl ?_
      refine wp_bipush (v := (tc_enc 6001)) d_Sc_readBoth_23 (by decide) ?_
      refine wp_callV (r := (R_3, T_3, 10)) (M' := m_Sc_emit) (as := [_]) (D' := D - 1) (C1 := 0) (C2 := 0) (S1 := 0) (S2 := 0) d_Sc_readBoth_25 rfl w_656 w_658 w_11 (pz_c hX) k_Sc_emit (Nat.le_of_ble_eq_true rfl) rfl (Nat.le_of_ble_eq_true rfl) (by omega) rfl rfl ?_
      refine c_Sc_emit (by omega) hX (by simp only [List.length_append, List.length_map]; omega) ?_
      refine wp_pop d_Sc_readBoth_28 rfl ?_
      refine c_i3 (k := k + 1) (by omega) (by omega) (by omega) (by simp only [List.length_append, List.length_map, List.length_cons, List.length_nil]; omega) (by omega) (by omega) (fun l2 p2 h2 => ?_) (fun p2 os2 h2 => ?_)
      · have := kt (l ++ [6001] ++ l2) p2 (by rw [sp_P, if_neg (by decide), if_neg (by decide), if_neg (by decide), if_pos rfl, if_pos hi]; simp only [hr, h2])
        rw [List.map_append, List.map_append, ← List.append_assoc, ← List.append_assoc] at this
        exact this
      · exact kf _ _ (by rw [sp_P, if_neg (by decide), if_neg (by decide), if_neg (by decide), if_pos rfl, if_pos hi]; simp only [hr, h2])
    · skip
      refine wp_if_ne (t := 18) d_Sc_readBoth_13 (by decide) (fun c_13 => (absurd c_13 (by decide))) (fun c_13 => ?_)
      refine wp_iconst (v := 0) d_Sc_readBoth_16 rfl ?_
      refine wp_ireturn d_Sc_readBoth_17 rfl rfl ?_
      exact kf _ _ (by rw [sp_P, if_neg (by decide), if_neg (by decide), if_neg (by decide), if_pos rfl, if_pos hi]; simp only [hr])
  · skip
    refine wp_if_ne (t := 40) d_Sc_readBoth_35 (by decide) (fun c_35 => (absurd c_35 (by decide))) (fun c_35 => ?_)
    refine wp_iconst (v := 1) d_Sc_readBoth_38 rfl ?_
    refine wp_ireturn d_Sc_readBoth_39 rfl rfl ?_
    have := kt [] p (by rw [sp_P, if_neg (by decide), if_neg (by decide), if_neg (by decide), if_pos rfl, if_neg hi])
    rw [List.map_nil, List.append_nil] at this
    exact this
set_option maxRecDepth 4000 in
theorem l_pS2 (hX : ph_ok h0 c f) (hT : ph_tx f T n) {q : Nat} (c_i1 : pS1 G h0 c n cc0 w T q) (c_i3 : pS4 G h0 c n cc0 w T q) : pS2 G h0 c n cc0 w T (q + 1) := by
  intro D d p os Q hD hd hpn hos hq kt kf
  have hn := hT.1
  show px_W _ _ _ _ _ _ [some (.ref c), some (.int (nI d)), none] [] _ _
  refine wp_iconst (v := (nI 0)) d_Sc_readEither_0 rfl ?_
  refine wp_istore_n (ls' := [_, _, _]) d_Sc_readEither_1 rfl (by decide) rfl ?_
  refine wp_iload_n d_Sc_readEither_2 rfl rfl ?_
  refine wp_bipush (v := (nI 100)) d_Sc_readEither_3 (by decide) ?_
  refine wp_icmp_ge (t := 46) d_Sc_readEither_5 (by decide) (fun c_5 => (absurd c_5 (by decide))) (fun c_5 => ?_)
  refine wp_aload_n d_Sc_readEither_8 rfl rfl rfl ?_
  refine wp_iload_n d_Sc_readEither_9 rfl rfl ?_
  refine wp_callV (r := (R_3, T_3, 10)) (M' := m_Sc_readBoth) (as := [_]) (D' := D - 1) (C1 := 0) (C2 := 0) (S1 := 0) (S2 := 0) d_Sc_readEither_10 rfl w_587 w_589 w_8 (pz_c hX) k_Sc_readBoth (Nat.le_of_ble_eq_true rfl) rfl (Nat.le_of_ble_eq_true rfl) (by omega) rfl rfl ?_
  refine c_i1 (by omega) (by omega) (by omega) (by omega) (by omega) (fun l p' hr => ?_) (fun p' os' hr => ?_)
  · skip
    have hb := sp_P_b _ _ _ _ _ _ (by omega) hr
    have hl1 := sp_P_n (by decide) hr
    refine wp_if_ne (t := 18) d_Sc_readEither_13 (by decide) (fun c_13 => ?_) (fun c_13 => (absurd c_13 (by decide)))
    refine wp_iload_n d_Sc_readEither_18 rfl rfl ?_
    refine wp_if_le (t := 29) d_Sc_readEither_19 (by decide) (fun c_19 => ?_) (fun c_19 => (absurd c_19 (by decide)))
    refine c_i3 (k := 0) (by omega) (by omega) (by omega) (by simp only [List.length_append, List.length_map, List.length_cons, List.length_nil]; omega) (by omega) (by omega) (fun l2 p2 h2 => ?_) (fun p2 os2 h2 => ?_)
    · have := kt (l ++ l2) p2 (by rw [sp_P, if_neg (by decide), if_neg (by decide), if_pos rfl]; simp only [hr, h2])
      rw [List.map_append, ← List.append_assoc] at this
      exact this
    · exact kf _ _ (by rw [sp_P, if_neg (by decide), if_neg (by decide), if_pos rfl]; simp only [hr, h2])
  · skip
    refine wp_if_ne (t := 18) d_Sc_readEither_13 (by decide) (fun c_13 => (absurd c_13 (by decide))) (fun c_13 => ?_)
    refine wp_iconst (v := 0) d_Sc_readEither_16 rfl ?_
    refine wp_ireturn d_Sc_readEither_17 rfl rfl ?_
    exact kf _ _ (by rw [sp_P, if_neg (by decide), if_neg (by decide), if_pos rfl]; simp only [hr])
set_option maxRecDepth 4000 in
theorem l_pS4 (hX : ph_ok h0 c f) (hT : ph_tx f T n) {q : Nat} (c_i1 : pS1 G h0 c n cc0 w T q) (c_i3 : pS4 G h0 c n cc0 w T q) : pS4 G h0 c n cc0 w T (q + 1) := by
  intro D d p k os Q hD hd hpn hos hq hk kt kf
  have hn := hT.1
  refine wp_aload_n d_Sc_readEither_29 rfl rfl rfl ?_
  refine wp_bipush (v := (nI 124)) d_Sc_readEither_30 (by decide) ?_
  refine wp_callV (r := (R_3, T_3, 10)) (M' := m_Sc_passes) (as := [_]) (D' := D - 1) (C1 := 0) (C2 := 0) (S1 := 0) (S2 := 0) d_Sc_readEither_32 rfl w_575 w_577 w_5 (pz_c hX) k_Sc_passes (Nat.le_of_ble_eq_true rfl) rfl (Nat.le_of_ble_eq_true rfl) (by omega) rfl rfl ?_
  refine c_Sc_passes (by omega) hX hT (by omega) (by decide) (fun hi => ?_) (fun hi => ?_)
  · skip
    refine wp_if_ne (t := 40) d_Sc_readEither_35 (by decide) (fun c_35 => ?_) (fun c_35 => (absurd c_35 (by decide)))
    have hlt := hi.1
    refine wp_iinc (v := (nI (k + 1))) (ls' := [_, _, _]) d_Sc_readEither_40 (by decide) rfl (nI_1 k) rfl ?_
    refine wp_goto (t := 2) d_Sc_readEither_43 (by decide) ?_
    refine wp_iload_n d_Sc_readEither_2 rfl rfl ?_
    refine wp_bipush (v := (nI 100)) d_Sc_readEither_3 (by decide) ?_
    refine wp_icmp_ge (t := 46) d_Sc_readEither_5 (by decide) (fun c_5 => absurd c_5 (nI_ge (show k + 1 < 100 by omega) (by decide))) (fun c_5 => ?_)
    refine wp_aload_n d_Sc_readEither_8 rfl rfl rfl ?_
    refine wp_iload_n d_Sc_readEither_9 rfl rfl ?_
    refine wp_callV (r := (R_3, T_3, 10)) (M' := m_Sc_readBoth) (as := [_]) (D' := D - 1) (C1 := 0) (C2 := 0) (S1 := 0) (S2 := 0) d_Sc_readEither_10 rfl w_587 w_589 w_8 (pz_c hX) k_Sc_readBoth (Nat.le_of_ble_eq_true rfl) rfl (Nat.le_of_ble_eq_true rfl) (by omega) rfl rfl ?_
    refine c_i1 (by omega) (by omega) (by omega) (by omega) (by omega) (fun l p' hr => ?_) (fun p' os' hr => ?_)
    · skip
      have hb := sp_P_b _ _ _ _ _ _ (by omega) hr
      have hl1 := sp_P_n (by decide) hr
      refine wp_if_ne (t := 18) d_Sc_readEither_13 (by decide) (fun c_13 => ?_) (fun c_13 => (absurd c_13 (by decide)))
      skip
      refine wp_iload_n d_Sc_readEither_18 rfl rfl ?_
      refine wp_if_le (t := 29) d_Sc_readEither_19 (by decide) (fun c_19 => absurd (show nI (k + 1) ≤ nI 0 from c_19) (fun z => absurd ((nI_leI (by omega) (by decide)).mp z) (by omega))) (fun c_19 => ?_)
      refine wp_aload_n d_Sc_readEither_22 rfl rfl rfl ?_
      refine wp_bipush (v := (tc_enc 6002)) d_Sc_readEither_23 (by decide) ?_
      refine wp_callV (r := (R_3, T_3, 10)) (M' := m_Sc_emit) (as := [_]) (D' := D - 1) (C1 := 0) (C2 := 0) (S1 := 0) (S2 := 0) d_Sc_readEither_25 rfl w_656 w_658 w_11 (pz_c hX) k_Sc_emit (Nat.le_of_ble_eq_true rfl) rfl (Nat.le_of_ble_eq_true rfl) (by omega) rfl rfl ?_
      refine c_Sc_emit (by omega) hX (by simp only [List.length_append, List.length_map]; omega) ?_
      refine wp_pop d_Sc_readEither_28 rfl ?_
      refine c_i3 (k := k + 1) (by omega) (by omega) (by omega) (by simp only [List.length_append, List.length_map, List.length_cons, List.length_nil]; omega) (by omega) (by omega) (fun l2 p2 h2 => ?_) (fun p2 os2 h2 => ?_)
      · have := kt (l ++ [6002] ++ l2) p2 (by rw [sp_P, if_neg (by decide), if_neg (by decide), if_neg (by decide), if_neg (by decide), if_pos hi]; simp only [hr, h2])
        rw [List.map_append, List.map_append, ← List.append_assoc, ← List.append_assoc] at this
        exact this
      · exact kf _ _ (by rw [sp_P, if_neg (by decide), if_neg (by decide), if_neg (by decide), if_neg (by decide), if_pos hi]; simp only [hr, h2])
    · skip
      refine wp_if_ne (t := 18) d_Sc_readEither_13 (by decide) (fun c_13 => (absurd c_13 (by decide))) (fun c_13 => ?_)
      refine wp_iconst (v := 0) d_Sc_readEither_16 rfl ?_
      refine wp_ireturn d_Sc_readEither_17 rfl rfl ?_
      exact kf _ _ (by rw [sp_P, if_neg (by decide), if_neg (by decide), if_neg (by decide), if_neg (by decide), if_pos hi]; simp only [hr])
  · skip
    refine wp_if_ne (t := 40) d_Sc_readEither_35 (by decide) (fun c_35 => (absurd c_35 (by decide))) (fun c_35 => ?_)
    refine wp_iconst (v := 1) d_Sc_readEither_38 rfl ?_
    refine wp_ireturn d_Sc_readEither_39 rfl rfl ?_
    have := kt [] p (by rw [sp_P, if_neg (by decide), if_neg (by decide), if_neg (by decide), if_neg (by decide), if_neg hi])
    rw [List.map_nil, List.append_nil] at this
    exact this
theorem l_pS (hX : ph_ok h0 c f) (hT : ph_tx f T n) : ∀ q, pS0 G h0 c n cc0 w T q ∧ pS1 G h0 c n cc0 w T q ∧ pS2 G h0 c n cc0 w T q ∧ pS3 G h0 c n cc0 w T q ∧ pS4 G h0 c n cc0 w T q := by
  intro q
  induction q with
  | zero => exact ⟨fun _ _ _ _ h => by omega, fun _ _ _ _ h => by omega, fun _ _ _ _ h => by omega, fun _ _ _ _ h => by omega, fun _ _ _ _ h => by omega⟩
  | succ q ih => exact ⟨l_pS0 hX hT ih.1 ih.2.2.1, l_pS1 hX hT ih.1 ih.2.2.2.1, l_pS2 hX hT ih.2.1 ih.2.2.2.2, l_pS3 hX hT ih.1 ih.2.2.2.1, l_pS4 hX hT ih.2.1 ih.2.2.2.2⟩
variable {D p : Nat} {os : List Int32} {Q : Option Value → px_H → Prop}
theorem c_Sc_E (hD : 20 ≤ D) (hX : ph_ok h0 c f) (hT : ph_tx f T n) (hpn : p ≤ n) (hos : os.length ≤ p) (kt : ∀ l p', sp_E T n p = (some l, p') → Q (some (.int 1)) (PS h0 c n cc0 w p' (os ++ l.map tc_enc))) (kf : ∀ p' os', sp_E T n p = (none, p') → Q (some (.int 0)) (PS h0 c n cc0 w p' os')) : px_W G D 0 0 m_Sc_readEither 0 (px_ent 3 [.ref c, .int (nI 0)]) [] (PS h0 c n cc0 w p os) Q := (l_pS hX hT 403).2.2.1 hD (by decide) hpn hos (by have := hT.1; omega) kt kf
end TPB
