def mo_F0 : Nat → Value := fun k => if k = 5 ∨ k = 6 ∨ k = 7 ∨ k = 8 ∨ k = 9 ∨ k = 10 ∨ k = 16 ∨ k = 17 ∨ k = 18 ∨ k = 19 ∨ k = 20 ∨ k = 21 ∨ k = 22 ∨ k = 23 ∨ k = 27 ∨ k = 28 ∨ k = 34 ∨ k = 35 ∨ k = 39 ∨ k = 40 ∨ k = 41 ∨ k = 43 ∨ k = 45 ∨ k = 46 ∨ k = 55 ∨ k = 56 ∨ k = 57 ∨ k = 58 ∨ k = 59 ∨ k = 60 ∨ k = 61 ∨ k = 62 ∨ k = 63 ∨ k = 65 ∨ k = 66 ∨ k = 67 ∨ k = 68 ∨ k = 69 then .null else .int 0
/-! THE REFERENCE IS MADE: an object whose fields are told by F, arrays behind it -/
def HI (X : px_H) (F : Nat → Value) (a : px_H) : px_H := X ++ (.inr (12, (List.range 70).map F) :: a)
theorem hi_0 {X a : px_H} {F : Nat → Value} : (HI X F a)[X.length]? = some (.inr (12, (List.range 70).map F)) := by
  unfold HI
  rw [List.getElem?_append_right (Nat.le_refl _), Nat.sub_self]
  rfl
theorem rg_set {F : Nat → Value} {n k : Nat} {v : Value} : ((List.range n).map F).set k v = (List.range n).map (va_up F k v) := by
  apply List.ext_getElem?
  intro j
  by_cases h : j < n
  · rw [List.getElem?_map, List.getElem?_range h]
    by_cases hj : k = j
    · subst hj
      rw [List.getElem?_set_self (by simp; exact h)]
      show some v = some (if k = k then v else F k)
      rw [if_pos rfl]
    · rw [List.getElem?_set_ne hj, List.getElem?_map, List.getElem?_range h]
      show some (F j) = some (if j = k then v else F j)
      rw [if_neg (Ne.symm hj)]
  · rw [List.getElem?_eq_none (by simp; omega), List.getElem?_eq_none (by simp; omega)]
theorem hi_set {X a : px_H} {F : Nat → Value} {k : Nat} {v : Value} : (HI X F a).set X.length (.inr (12, ((List.range 70).map F).set k v)) = HI X (va_up F k v) a := by
  unfold HI
  rw [List.set_append_right _ _ (Nat.le_refl _), Nat.sub_self, rg_set]
  rfl
theorem hi_len {X a : px_H} {F : Nat → Value} : (HI X F a).length = X.length + (a.length + 1) := by
  unfold HI
  rw [List.length_append]
  rfl
theorem hi_app {X a : px_H} {F : Nat → Value} {c : px_E} : HI X F a ++ [c] = HI X F (a ++ [c]) := by
  unfold HI
  rw [List.append_assoc]
  rfl
theorem hi_at {X a : px_H} {F : Nat → Value} {j : Nat} {e : px_E} (h : a[j]? = some e) : (HI X F a)[X.length + (j + 1)]? = some e := by
  unfold HI
  rw [List.getElem?_append_right (by omega), show X.length + (j + 1) - X.length = j + 1 by omega]
  exact h
theorem hi_seta {X a : px_H} {F : Nat → Value} {j : Nat} {e : px_E} : (HI X F a).set (X.length + (j + 1)) e = HI X F (a.set j e) := by
  unfold HI
  rw [List.set_append_right _ _ (by omega), show X.length + (j + 1) - X.length = j + 1 by omega]
  rfl
section MOQ
variable {G : px_G} {D C S C' S' : Nat} {M : px_M} {pc : Nat} {ls : px_L} {st : List Value} {X a a' : px_H} {F : Nat → Value} {Q : Option Value → px_H → Prop}
theorem wi_puti {idx k0 : Nat} {x : Int32} (hM : M.1.cls = "TubeChainModel") (hk : k0 < 70) (d : decode M.2.1 pc = .ok (.putfield idx, 3)) (gf : px_GF "TubeChainModel" idx 12 k0 .int false) (k : px_W G D C S M (pc + 3) ls st (HI X (va_up F k0 (.int x)) a) Q) : px_W G D C S M pc ls (.int x :: .ref X.length :: st) (HI X F a) Q := wp_putf d (by rw [hM]; exact gf) hi_0 (by simp; exact hk) rfl rfl hi_set k
theorem wi_putz {idx k0 : Nat} {x : Int32} (hM : M.1.cls = "TubeChainModel") (hk : k0 < 70) (hx : narrow .boolean (.int x) = .int x) (hf : fits .boolean (.int x) = true) (d : decode M.2.1 pc = .ok (.putfield idx, 3)) (gf : px_GF "TubeChainModel" idx 12 k0 .boolean false) (k : px_W G D C S M (pc + 3) ls st (HI X (va_up F k0 (.int x)) a) Q) : px_W G D C S M pc ls (.int x :: .ref X.length :: st) (HI X F a) Q := wp_putf d (by rw [hM]; exact gf) hi_0 (by simp; exact hk) hx hf hi_set k
theorem wi_putr {idx k0 j : Nat} {ty : FieldType} (hM : M.1.cls = "TubeChainModel") (hnm0 : M.1.name = "<init>") (hk : k0 < 70) (d : decode M.2.1 pc = .ok (.putfield idx, 3)) (gf : px_GF "TubeChainModel" idx 12 k0 (.array ty) true) (k : px_W G D C S M (pc + 3) ls st (HI X (va_up F k0 (.ref j)) a) Q) : px_W G D C S M pc ls (.ref j :: .ref X.length :: st) (HI X F a) Q := wp_putF d (by rw [hM]; exact gf) hnm0 hi_0 (by simp; exact hk) rfl rfl hi_set k
theorem wi_newI {n0 j : Nat} {n : Int32} (d : decode M.2.1 pc = .ok (.newarray .int, 2)) (hn : ¬ n < 0) (hN : n.toNatClampNeg = n0) (hb : n0 * 4 ≤ 536870912) (hC : C = C' + 1) (hS : S = S' + n0) (hj : a.length + 1 = j) (ha : a ++ [.inl (.int, n0, .inl fun _ => 0)] = a') (k : px_W G D C' S' M (pc + 2) ls (.ref (X.length + j) :: st) (HI X F a') Q) : px_W G D C S M pc ls (.int n :: st) (HI X F a) Q := by
  refine wp_newa (t0 := 0) (ty := .int) (a0 := (n0, .inl fun _ => 0)) d rfl w_147 (fun _ => rfl) (fun _ h => by cases h) (fun _ => rfl) hn hN hb hC hS ?_
  rw [hi_len, hi_app, hj, ha]
  exact k
theorem wi_newZ {n0 j : Nat} {n : Int32} (d : decode M.2.1 pc = .ok (.newarray .boolean, 2)) (hn : ¬ n < 0) (hN : n.toNatClampNeg = n0) (hb : n0 * 1 ≤ 536870912) (hC : C = C' + 1) (hS : S = S' + n0) (hj : a.length + 1 = j) (ha : a ++ [.inl (.boolean, n0, .inl fun _ => 0)] = a') (k : px_W G D C' S' M (pc + 2) ls (.ref (X.length + j) :: st) (HI X F a') Q) : px_W G D C S M pc ls (.int n :: st) (HI X F a) Q := by
  refine wp_newa (t0 := 3) (ty := .boolean) (a0 := (n0, .inl fun _ => 0)) d rfl w_1204 (fun _ => rfl) (fun _ h => by cases h) (fun _ => rfl) hn hN hb hC hS ?_
  rw [hi_len, hi_app, hj, ha]
  exact k
theorem wi_newJ {n0 j : Nat} {n : Int32} (d : decode M.2.1 pc = .ok (.newarray .long, 2)) (hn : ¬ n < 0) (hN : n.toNatClampNeg = n0) (hb : n0 * 8 ≤ 536870912) (hC : C = C' + 1) (hS : S = S' + n0) (hj : a.length + 1 = j) (ha : a ++ [.inl (.long, n0, .inr (.inl fun _ => 0))] = a') (k : px_W G D C' S' M (pc + 2) ls (.ref (X.length + j) :: st) (HI X F a') Q) : px_W G D C S M pc ls (.int n :: st) (HI X F a) Q := by
  refine wp_newa (t0 := 1) (ty := .long) (a0 := (n0, .inr (.inl fun _ => 0))) d rfl w_148 (fun _ => rfl) (fun _ h => by cases h) (fun _ => rfl) hn hN hb hC hS ?_
  rw [hi_len, hi_app, hj, ha]
  exact k
theorem wi_st {n0 j i0 : Nat} {f : Nat → Int32} {x : Int32} (d : decode M.2.1 pc = .ok (.iastore, 1)) (hi : i0 < n0) (hn : n0 < 2 ^ 31) (he : a[j]? = some (.inl (.int, n0, .inl f))) (ha : a.set j (.inl (.int, n0, .inl (upd f i0 x))) = a') (k : px_W G D C S M (pc + 1) ls st (HI X F a') Q) : px_W G D C S M pc ls (.int x :: .int (nI i0) :: .ref (X.length + (j + 1)) :: st) (HI X F a) Q := by
  refine wp_iast d (hi_at he) (vp_in_nI hi hn) rfl ?_
  rw [nI_clamp (by omega), hi_seta, ha]
  exact k
def mo_I0 : Nat → Int32 := fun k => if k = 12 then (-1) else if k = 30 then (-1) else if k = 32 then 9999 else if k = 48 then (-1) else 0
def mo_A0 : Nat → Nat → Int32 := fun k => if k = 66 then (upd (upd (upd (upd (upd (upd (fun _ => (0 : Int32)) 0 (-1)) 1 (-1)) 2 (-1)) 3 (-1)) 4 (-1)) 5 (-1)) else fun _ => 0
def mo_L0 : Nat → Nat → Int64 := fun _ _ => 0
theorem mo_ltr_0 : (upd (upd (upd (upd (upd (upd (upd (upd (upd (upd (upd (upd (upd (upd (upd (upd (upd (upd (upd (upd (upd (fun _ => (0 : Int32)) 0 115) 1 108) 2 111) 3 119) 4 113) 5 117) 6 105) 7 99) 8 107) 9 114) 10 105) 11 115) 12 101) 13 114) 14 101) 15 115) 16 116) 17 112) 18 117) 19 108) 20 108) = mo_ltr := by
  funext j
  match j with
  | 0 => rfl
  | 1 => rfl
  | 2 => rfl
  | 3 => rfl
  | 4 => rfl
  | 5 => rfl
  | 6 => rfl
  | 7 => rfl
  | 8 => rfl
  | 9 => rfl
  | 10 => rfl
  | 11 => rfl
  | 12 => rfl
  | 13 => rfl
  | 14 => rfl
  | 15 => rfl
  | 16 => rfl
  | 17 => rfl
  | 18 => rfl
  | 19 => rfl
  | 20 => rfl
  | j + 21 =>
    show (if j + 21 = 20 then _ else _) = _
    rw [if_neg (by omega)]
    show (if j + 21 = 19 then _ else _) = _
    rw [if_neg (by omega)]
    show (if j + 21 = 18 then _ else _) = _
    rw [if_neg (by omega)]
    show (if j + 21 = 17 then _ else _) = _
    rw [if_neg (by omega)]
    show (if j + 21 = 16 then _ else _) = _
    rw [if_neg (by omega)]
    show (if j + 21 = 15 then _ else _) = _
    rw [if_neg (by omega)]
    show (if j + 21 = 14 then _ else _) = _
    rw [if_neg (by omega)]
    show (if j + 21 = 13 then _ else _) = _
    rw [if_neg (by omega)]
    show (if j + 21 = 12 then _ else _) = _
    rw [if_neg (by omega)]
    show (if j + 21 = 11 then _ else _) = _
    rw [if_neg (by omega)]
    show (if j + 21 = 10 then _ else _) = _
    rw [if_neg (by omega)]
    show (if j + 21 = 9 then _ else _) = _
    rw [if_neg (by omega)]
    show (if j + 21 = 8 then _ else _) = _
    rw [if_neg (by omega)]
    show (if j + 21 = 7 then _ else _) = _
    rw [if_neg (by omega)]
    show (if j + 21 = 6 then _ else _) = _
    rw [if_neg (by omega)]
    show (if j + 21 = 5 then _ else _) = _
    rw [if_neg (by omega)]
    show (if j + 21 = 4 then _ else _) = _
    rw [if_neg (by omega)]
    show (if j + 21 = 3 then _ else _) = _
    rw [if_neg (by omega)]
    show (if j + 21 = 2 then _ else _) = _
    rw [if_neg (by omega)]
    show (if j + 21 = 1 then _ else _) = _
    rw [if_neg (by omega)]
    show (if j + 21 = 0 then _ else _) = _
    rw [if_neg (by omega)]
    rfl
set_option maxRecDepth 8000 in
theorem c_Mo_init {X : px_H} {Q : Option Value → px_H → Prop} (hD : 1 ≤ D) (k : Q none (HM X mo_I0 mo_A0 mo_L0 [])) : px_W G D 38 1802 m_Mo_init 0 (px_ent 1 [.ref X.length]) [] (HI X mo_F0 []) Q := by
  show px_W _ _ _ _ _ _ [some (.ref X.length)] [] _ _
  refine wp_aload_n d_Mo_init_0 rfl rfl rfl ?_
  refine wp_objInit d_Mo_init_1 w_992 (by decide) (by omega) ?_
  refine wp_aload_n d_Mo_init_4 rfl rfl rfl ?_
  refine wp_iconst (v := 0) d_Mo_init_5 rfl ?_
  refine wi_puti rfl (by decide) d_Mo_init_6 pgf_Mo_7_12 ?_
  refine wp_aload_n d_Mo_init_9 rfl rfl rfl ?_
  refine wp_iconst (v := 0) d_Mo_init_10 rfl ?_
  refine wi_puti rfl (by decide) d_Mo_init_11 pgf_Mo_13_12 ?_
  refine wp_aload_n d_Mo_init_14 rfl rfl rfl ?_
  refine wp_iconst (v := 0) d_Mo_init_15 rfl ?_
  refine wi_puti rfl (by decide) d_Mo_init_16 pgf_Mo_16_12 ?_
  refine wp_aload_n d_Mo_init_19 rfl rfl rfl ?_
  refine wp_iconst (v := 0) d_Mo_init_20 rfl ?_
  refine wi_puti rfl (by decide) d_Mo_init_21 pgf_Mo_19_12 ?_
  refine wp_aload_n d_Mo_init_24 rfl rfl rfl ?_
  refine wp_iconst (v := 0) d_Mo_init_25 rfl ?_
  refine wi_puti rfl (by decide) d_Mo_init_26 pgf_Mo_22_12 ?_
  refine wp_aload_n d_Mo_init_29 rfl rfl rfl ?_
  refine wp_bipush (v := 6) d_Mo_init_30 (by decide) ?_
  refine wi_newI (n0 := 6) (j := 1) (C' := 37) (S' := 1796) d_Mo_init_32 (by decide) (by decide) (by decide) rfl rfl rfl rfl ?_
  refine wi_putr rfl rfl (by decide) d_Mo_init_34 pgf_Mo_25_12 ?_
  refine wp_aload_n d_Mo_init_37 rfl rfl rfl ?_
  refine wp_bipush (v := 6) d_Mo_init_38 (by decide) ?_
  refine wi_newI (n0 := 6) (j := 2) (C' := 36) (S' := 1790) d_Mo_init_40 (by decide) (by decide) (by decide) rfl rfl rfl rfl ?_
  refine wi_putr rfl rfl (by decide) d_Mo_init_42 pgf_Mo_29_12 ?_
  refine wp_aload_n d_Mo_init_45 rfl rfl rfl ?_
  refine wp_bipush (v := 6) d_Mo_init_46 (by decide) ?_
  refine wi_newI (n0 := 6) (j := 3) (C' := 35) (S' := 1784) d_Mo_init_48 (by decide) (by decide) (by decide) rfl rfl rfl rfl ?_
  refine wi_putr rfl rfl (by decide) d_Mo_init_50 pgf_Mo_32_12 ?_
  refine wp_aload_n d_Mo_init_53 rfl rfl rfl ?_
  refine wp_bipush (v := 6) d_Mo_init_54 (by decide) ?_
  refine wi_newI (n0 := 6) (j := 4) (C' := 34) (S' := 1778) d_Mo_init_56 (by decide) (by decide) (by decide) rfl rfl rfl rfl ?_
  refine wi_putr rfl rfl (by decide) d_Mo_init_58 pgf_Mo_35_12 ?_
  refine wp_aload_n d_Mo_init_61 rfl rfl rfl ?_
  refine wp_bipush (v := 24) d_Mo_init_62 (by decide) ?_
  refine wi_newI (n0 := 24) (j := 5) (C' := 33) (S' := 1754) d_Mo_init_64 (by decide) (by decide) (by decide) rfl rfl rfl rfl ?_
  refine wi_putr rfl rfl (by decide) d_Mo_init_66 pgf_Mo_38_12 ?_
  refine wp_aload_n d_Mo_init_69 rfl rfl rfl ?_
  refine wp_bipush (v := 6) d_Mo_init_70 (by decide) ?_
  refine wi_newI (n0 := 6) (j := 6) (C' := 32) (S' := 1748) d_Mo_init_72 (by decide) (by decide) (by decide) rfl rfl rfl rfl ?_
  refine wi_putr rfl rfl (by decide) d_Mo_init_74 pgf_Mo_41_12 ?_
  refine wp_aload_n d_Mo_init_77 rfl rfl rfl ?_
  refine wp_iconst (v := 0) d_Mo_init_78 rfl ?_
  refine wi_puti rfl (by decide) d_Mo_init_79 pgf_Mo_44_12 ?_
  refine wp_aload_n d_Mo_init_82 rfl rfl rfl ?_
  refine wp_iconst (v := (-1)) d_Mo_init_83 rfl ?_
  refine wi_puti rfl (by decide) d_Mo_init_84 pgf_Mo_47_12 ?_
  refine wp_aload_n d_Mo_init_87 rfl rfl rfl ?_
  refine wp_iconst (v := 0) d_Mo_init_88 rfl ?_
  refine wi_puti rfl (by decide) d_Mo_init_89 pgf_Mo_50_12 ?_
  refine wp_aload_n d_Mo_init_92 rfl rfl rfl ?_
  refine wp_iconst (v := 0) d_Mo_init_93 rfl ?_
  refine wi_puti rfl (by decide) d_Mo_init_94 pgf_Mo_53_12 ?_
  refine wp_aload_n d_Mo_init_97 rfl rfl rfl ?_
  refine wp_iconst (v := 0) d_Mo_init_98 rfl ?_
  refine wi_puti rfl (by decide) d_Mo_init_99 pgf_Mo_56_12 ?_
  refine wp_aload_n d_Mo_init_102 rfl rfl rfl ?_
  refine wp_bipush (v := 100) d_Mo_init_103 (by decide) ?_
  refine wi_newI (n0 := 100) (j := 7) (C' := 31) (S' := 1648) d_Mo_init_105 (by decide) (by decide) (by decide) rfl rfl rfl rfl ?_
  refine wi_putr rfl rfl (by decide) d_Mo_init_107 pgf_Mo_59_12 ?_
  refine wp_aload_n d_Mo_init_110 rfl rfl rfl ?_
  refine wp_bipush (v := 6) d_Mo_init_111 (by decide) ?_
  refine wi_newI (n0 := 6) (j := 8) (C' := 30) (S' := 1642) d_Mo_init_113 (by decide) (by decide) (by decide) rfl rfl rfl rfl ?_
  refine wi_putr rfl rfl (by decide) d_Mo_init_115 pgf_Mo_62_12 ?_
  refine wp_aload_n d_Mo_init_118 rfl rfl rfl ?_
  refine wp_bipush (v := 60) d_Mo_init_119 (by decide) ?_
  refine wi_newI (n0 := 60) (j := 9) (C' := 29) (S' := 1582) d_Mo_init_121 (by decide) (by decide) (by decide) rfl rfl rfl rfl ?_
  refine wi_putr rfl rfl (by decide) d_Mo_init_123 pgf_Mo_65_12 ?_
  refine wp_aload_n d_Mo_init_126 rfl rfl rfl ?_
  refine wp_bipush (v := 60) d_Mo_init_127 (by decide) ?_
  refine wi_newI (n0 := 60) (j := 10) (C' := 28) (S' := 1522) d_Mo_init_129 (by decide) (by decide) (by decide) rfl rfl rfl rfl ?_
  refine wi_putr rfl rfl (by decide) d_Mo_init_131 pgf_Mo_68_12 ?_
  refine wp_aload_n d_Mo_init_134 rfl rfl rfl ?_
  refine wp_bipush (v := 60) d_Mo_init_135 (by decide) ?_
  refine wi_newI (n0 := 60) (j := 11) (C' := 27) (S' := 1462) d_Mo_init_137 (by decide) (by decide) (by decide) rfl rfl rfl rfl ?_
  refine wi_putr rfl rfl (by decide) d_Mo_init_139 pgf_Mo_71_12 ?_
  refine wp_aload_n d_Mo_init_142 rfl rfl rfl ?_
  refine wp_bipush (v := 60) d_Mo_init_143 (by decide) ?_
  refine wi_newI (n0 := 60) (j := 12) (C' := 26) (S' := 1402) d_Mo_init_145 (by decide) (by decide) (by decide) rfl rfl rfl rfl ?_
  refine wi_putr rfl rfl (by decide) d_Mo_init_147 pgf_Mo_74_12 ?_
  refine wp_aload_n d_Mo_init_150 rfl rfl rfl ?_
  refine wp_sipush (v := 600) d_Mo_init_151 (by decide) ?_
  refine wi_newI (n0 := 600) (j := 13) (C' := 25) (S' := 802) d_Mo_init_154 (by decide) (by decide) (by decide) rfl rfl rfl rfl ?_
  refine wi_putr rfl rfl (by decide) d_Mo_init_156 pgf_Mo_77_12 ?_
  refine wp_aload_n d_Mo_init_159 rfl rfl rfl ?_
  refine wp_bipush (v := 101) d_Mo_init_160 (by decide) ?_
  refine wi_newI (n0 := 101) (j := 14) (C' := 24) (S' := 701) d_Mo_init_162 (by decide) (by decide) (by decide) rfl rfl rfl rfl ?_
  refine wi_putr rfl rfl (by decide) d_Mo_init_164 pgf_Mo_80_12 ?_
  refine wp_aload_n d_Mo_init_167 rfl rfl rfl ?_
  refine wp_iconst (v := 0) d_Mo_init_168 rfl ?_
  refine wi_puti rfl (by decide) d_Mo_init_169 pgf_Mo_83_12 ?_
  refine wp_aload_n d_Mo_init_172 rfl rfl rfl ?_
  refine wp_iconst (v := 0) d_Mo_init_173 rfl ?_
  refine wi_puti rfl (by decide) d_Mo_init_174 pgf_Mo_86_12 ?_
  refine wp_aload_n d_Mo_init_177 rfl rfl rfl ?_
  refine wp_iconst (v := 0) d_Mo_init_178 rfl ?_
  refine wi_puti rfl (by decide) d_Mo_init_179 pgf_Mo_89_12 ?_
  refine wp_aload_n d_Mo_init_182 rfl rfl rfl ?_
  refine wp_bipush (v := 21) d_Mo_init_183 (by decide) ?_
  refine wi_newI (n0 := 21) (j := 15) (C' := 23) (S' := 680) d_Mo_init_185 (by decide) (by decide) (by decide) rfl rfl rfl rfl ?_
  refine wp_dup d_Mo_init_187 rfl ?_
  refine wp_iconst (v := (nI 0)) d_Mo_init_188 rfl ?_
  refine wp_bipush (v := 115) d_Mo_init_189 (by decide) ?_
  refine wi_st (n0 := 21) (j := 14) (i0 := 0) d_Mo_init_191 (by decide) (by decide) rfl rfl ?_
  refine wp_dup d_Mo_init_192 rfl ?_
  refine wp_iconst (v := (nI 1)) d_Mo_init_193 rfl ?_
  refine wp_bipush (v := 108) d_Mo_init_194 (by decide) ?_
  refine wi_st (n0 := 21) (j := 14) (i0 := 1) d_Mo_init_196 (by decide) (by decide) rfl rfl ?_
  refine wp_dup d_Mo_init_197 rfl ?_
  refine wp_iconst (v := (nI 2)) d_Mo_init_198 rfl ?_
  refine wp_bipush (v := 111) d_Mo_init_199 (by decide) ?_
  refine wi_st (n0 := 21) (j := 14) (i0 := 2) d_Mo_init_201 (by decide) (by decide) rfl rfl ?_
  refine wp_dup d_Mo_init_202 rfl ?_
  refine wp_iconst (v := (nI 3)) d_Mo_init_203 rfl ?_
  refine wp_bipush (v := 119) d_Mo_init_204 (by decide) ?_
  refine wi_st (n0 := 21) (j := 14) (i0 := 3) d_Mo_init_206 (by decide) (by decide) rfl rfl ?_
  refine wp_dup d_Mo_init_207 rfl ?_
  refine wp_iconst (v := (nI 4)) d_Mo_init_208 rfl ?_
  refine wp_bipush (v := 113) d_Mo_init_209 (by decide) ?_
  refine wi_st (n0 := 21) (j := 14) (i0 := 4) d_Mo_init_211 (by decide) (by decide) rfl rfl ?_
  refine wp_dup d_Mo_init_212 rfl ?_
  refine wp_iconst (v := (nI 5)) d_Mo_init_213 rfl ?_
  refine wp_bipush (v := 117) d_Mo_init_214 (by decide) ?_
  refine wi_st (n0 := 21) (j := 14) (i0 := 5) d_Mo_init_216 (by decide) (by decide) rfl rfl ?_
  refine wp_dup d_Mo_init_217 rfl ?_
  refine wp_bipush (v := (nI 6)) d_Mo_init_218 (by decide) ?_
  refine wp_bipush (v := 105) d_Mo_init_220 (by decide) ?_
  refine wi_st (n0 := 21) (j := 14) (i0 := 6) d_Mo_init_222 (by decide) (by decide) rfl rfl ?_
  refine wp_dup d_Mo_init_223 rfl ?_
  refine wp_bipush (v := (nI 7)) d_Mo_init_224 (by decide) ?_
  refine wp_bipush (v := 99) d_Mo_init_226 (by decide) ?_
  refine wi_st (n0 := 21) (j := 14) (i0 := 7) d_Mo_init_228 (by decide) (by decide) rfl rfl ?_
  refine wp_dup d_Mo_init_229 rfl ?_
  refine wp_bipush (v := (nI 8)) d_Mo_init_230 (by decide) ?_
  refine wp_bipush (v := 107) d_Mo_init_232 (by decide) ?_
  refine wi_st (n0 := 21) (j := 14) (i0 := 8) d_Mo_init_234 (by decide) (by decide) rfl rfl ?_
  refine wp_dup d_Mo_init_235 rfl ?_
  refine wp_bipush (v := (nI 9)) d_Mo_init_236 (by decide) ?_
  refine wp_bipush (v := 114) d_Mo_init_238 (by decide) ?_
  refine wi_st (n0 := 21) (j := 14) (i0 := 9) d_Mo_init_240 (by decide) (by decide) rfl rfl ?_
  refine wp_dup d_Mo_init_241 rfl ?_
  refine wp_bipush (v := (nI 10)) d_Mo_init_242 (by decide) ?_
  refine wp_bipush (v := 105) d_Mo_init_244 (by decide) ?_
  refine wi_st (n0 := 21) (j := 14) (i0 := 10) d_Mo_init_246 (by decide) (by decide) rfl rfl ?_
  refine wp_dup d_Mo_init_247 rfl ?_
  refine wp_bipush (v := (nI 11)) d_Mo_init_248 (by decide) ?_
  refine wp_bipush (v := 115) d_Mo_init_250 (by decide) ?_
  refine wi_st (n0 := 21) (j := 14) (i0 := 11) d_Mo_init_252 (by decide) (by decide) rfl rfl ?_
  refine wp_dup d_Mo_init_253 rfl ?_
  refine wp_bipush (v := (nI 12)) d_Mo_init_254 (by decide) ?_
  refine wp_bipush (v := 101) d_Mo_init_256 (by decide) ?_
  refine wi_st (n0 := 21) (j := 14) (i0 := 12) d_Mo_init_258 (by decide) (by decide) rfl rfl ?_
  refine wp_dup d_Mo_init_259 rfl ?_
  refine wp_bipush (v := (nI 13)) d_Mo_init_260 (by decide) ?_
  refine wp_bipush (v := 114) d_Mo_init_262 (by decide) ?_
  refine wi_st (n0 := 21) (j := 14) (i0 := 13) d_Mo_init_264 (by decide) (by decide) rfl rfl ?_
  refine wp_dup d_Mo_init_265 rfl ?_
  refine wp_bipush (v := (nI 14)) d_Mo_init_266 (by decide) ?_
  refine wp_bipush (v := 101) d_Mo_init_268 (by decide) ?_
  refine wi_st (n0 := 21) (j := 14) (i0 := 14) d_Mo_init_270 (by decide) (by decide) rfl rfl ?_
  refine wp_dup d_Mo_init_271 rfl ?_
  refine wp_bipush (v := (nI 15)) d_Mo_init_272 (by decide) ?_
  refine wp_bipush (v := 115) d_Mo_init_274 (by decide) ?_
  refine wi_st (n0 := 21) (j := 14) (i0 := 15) d_Mo_init_276 (by decide) (by decide) rfl rfl ?_
  refine wp_dup d_Mo_init_277 rfl ?_
  refine wp_bipush (v := (nI 16)) d_Mo_init_278 (by decide) ?_
  refine wp_bipush (v := 116) d_Mo_init_280 (by decide) ?_
  refine wi_st (n0 := 21) (j := 14) (i0 := 16) d_Mo_init_282 (by decide) (by decide) rfl rfl ?_
  refine wp_dup d_Mo_init_283 rfl ?_
  refine wp_bipush (v := (nI 17)) d_Mo_init_284 (by decide) ?_
  refine wp_bipush (v := 112) d_Mo_init_286 (by decide) ?_
  refine wi_st (n0 := 21) (j := 14) (i0 := 17) d_Mo_init_288 (by decide) (by decide) rfl rfl ?_
  refine wp_dup d_Mo_init_289 rfl ?_
  refine wp_bipush (v := (nI 18)) d_Mo_init_290 (by decide) ?_
  refine wp_bipush (v := 117) d_Mo_init_292 (by decide) ?_
  refine wi_st (n0 := 21) (j := 14) (i0 := 18) d_Mo_init_294 (by decide) (by decide) rfl rfl ?_
  refine wp_dup d_Mo_init_295 rfl ?_
  refine wp_bipush (v := (nI 19)) d_Mo_init_296 (by decide) ?_
  refine wp_bipush (v := 108) d_Mo_init_298 (by decide) ?_
  refine wi_st (n0 := 21) (j := 14) (i0 := 19) d_Mo_init_300 (by decide) (by decide) rfl rfl ?_
  refine wp_dup d_Mo_init_301 rfl ?_
  refine wp_bipush (v := (nI 20)) d_Mo_init_302 (by decide) ?_
  refine wp_bipush (v := 108) d_Mo_init_304 (by decide) ?_
  refine wi_st (n0 := 21) (j := 14) (i0 := 20) d_Mo_init_306 (by decide) (by decide) rfl rfl ?_
  refine wi_putr rfl rfl (by decide) d_Mo_init_307 pgf_Mo_92_12 ?_
  refine wp_aload_n d_Mo_init_310 rfl rfl rfl ?_
  refine wp_bipush (v := 100) d_Mo_init_311 (by decide) ?_
  refine wi_newZ (n0 := 100) (j := 16) (C' := 22) (S' := 580) d_Mo_init_313 (by decide) (by decide) (by decide) rfl rfl rfl rfl ?_
  refine wi_putr rfl rfl (by decide) d_Mo_init_315 pgf_Mo_95_12 ?_
  refine wp_aload_n d_Mo_init_318 rfl rfl rfl ?_
  refine wp_iconst (v := 0) d_Mo_init_319 rfl ?_
  refine wi_puti rfl (by decide) d_Mo_init_320 pgf_Mo_99_12 ?_
  refine wp_aload_n d_Mo_init_323 rfl rfl rfl ?_
  refine wp_iconst (v := (-1)) d_Mo_init_324 rfl ?_
  refine wi_puti rfl (by decide) d_Mo_init_325 pgf_Mo_102_12 ?_
  refine wp_aload_n d_Mo_init_328 rfl rfl rfl ?_
  refine wp_iconst (v := 0) d_Mo_init_329 rfl ?_
  refine wi_puti rfl (by decide) d_Mo_init_330 pgf_Mo_105_12 ?_
  refine wp_aload_n d_Mo_init_333 rfl rfl rfl ?_
  refine wp_sipush (v := 9999) d_Mo_init_334 (by decide) ?_
  refine wi_puti rfl (by decide) d_Mo_init_337 pgf_Mo_108_12 ?_
  refine wp_aload_n d_Mo_init_340 rfl rfl rfl ?_
  refine wp_iconst (v := 0) d_Mo_init_341 rfl ?_
  refine wi_puti rfl (by decide) d_Mo_init_342 pgf_Mo_111_12 ?_
  refine wp_aload_n d_Mo_init_345 rfl rfl rfl ?_
  refine wp_bipush (v := 6) d_Mo_init_346 (by decide) ?_
  refine wi_newI (n0 := 6) (j := 17) (C' := 21) (S' := 574) d_Mo_init_348 (by decide) (by decide) (by decide) rfl rfl rfl rfl ?_
  refine wi_putr rfl rfl (by decide) d_Mo_init_350 pgf_Mo_114_12 ?_
  refine wp_aload_n d_Mo_init_353 rfl rfl rfl ?_
  refine wp_bipush (v := 6) d_Mo_init_354 (by decide) ?_
  refine wi_newI (n0 := 6) (j := 18) (C' := 20) (S' := 568) d_Mo_init_356 (by decide) (by decide) (by decide) rfl rfl rfl rfl ?_
  refine wi_putr rfl rfl (by decide) d_Mo_init_358 pgf_Mo_117_12 ?_
  refine wp_aload_n d_Mo_init_361 rfl rfl rfl ?_
  refine wp_iconst (v := 0) d_Mo_init_362 rfl ?_
  refine wi_puti rfl (by decide) d_Mo_init_363 pgf_Mo_120_12 ?_
  refine wp_aload_n d_Mo_init_366 rfl rfl rfl ?_
  refine wp_iconst (v := 0) d_Mo_init_367 rfl ?_
  refine wi_puti rfl (by decide) d_Mo_init_368 pgf_Mo_123_12 ?_
  refine wp_aload_n d_Mo_init_371 rfl rfl rfl ?_
  refine wp_iconst (v := 0) d_Mo_init_372 rfl ?_
  refine wi_puti rfl (by decide) d_Mo_init_373 pgf_Mo_126_12 ?_
  refine wp_aload_n d_Mo_init_376 rfl rfl rfl ?_
  refine wp_bipush (v := 6) d_Mo_init_377 (by decide) ?_
  refine wi_newI (n0 := 6) (j := 19) (C' := 19) (S' := 562) d_Mo_init_379 (by decide) (by decide) (by decide) rfl rfl rfl rfl ?_
  refine wi_putr rfl rfl (by decide) d_Mo_init_381 pgf_Mo_129_12 ?_
  refine wp_aload_n d_Mo_init_384 rfl rfl rfl ?_
  refine wp_bipush (v := 6) d_Mo_init_385 (by decide) ?_
  refine wi_newI (n0 := 6) (j := 20) (C' := 18) (S' := 556) d_Mo_init_387 (by decide) (by decide) (by decide) rfl rfl rfl rfl ?_
  refine wi_putr rfl rfl (by decide) d_Mo_init_389 pgf_Mo_132_12 ?_
  refine wp_aload_n d_Mo_init_392 rfl rfl rfl ?_
  refine wp_bipush (v := 6) d_Mo_init_393 (by decide) ?_
  refine wi_newI (n0 := 6) (j := 21) (C' := 17) (S' := 550) d_Mo_init_395 (by decide) (by decide) (by decide) rfl rfl rfl rfl ?_
  refine wi_putr rfl rfl (by decide) d_Mo_init_397 pgf_Mo_135_12 ?_
  refine wp_aload_n d_Mo_init_400 rfl rfl rfl ?_
  refine wp_iconst (v := 0) d_Mo_init_401 rfl ?_
  refine wi_puti rfl (by decide) d_Mo_init_402 pgf_Mo_138_12 ?_
  refine wp_aload_n d_Mo_init_405 rfl rfl rfl ?_
  refine wp_bipush (v := 6) d_Mo_init_406 (by decide) ?_
  refine wi_newI (n0 := 6) (j := 22) (C' := 16) (S' := 544) d_Mo_init_408 (by decide) (by decide) (by decide) rfl rfl rfl rfl ?_
  refine wi_putr rfl rfl (by decide) d_Mo_init_410 pgf_Mo_141_12 ?_
  refine wp_aload_n d_Mo_init_413 rfl rfl rfl ?_
  refine wp_iconst (v := 0) d_Mo_init_414 rfl ?_
  refine wi_puti rfl (by decide) d_Mo_init_415 pgf_Mo_144_12 ?_
  refine wp_aload_n d_Mo_init_418 rfl rfl rfl ?_
  refine wp_bipush (v := 8) d_Mo_init_419 (by decide) ?_
  refine wi_newI (n0 := 8) (j := 23) (C' := 15) (S' := 536) d_Mo_init_421 (by decide) (by decide) (by decide) rfl rfl rfl rfl ?_
  refine wi_putr rfl rfl (by decide) d_Mo_init_423 pgf_Mo_147_12 ?_
  refine wp_aload_n d_Mo_init_426 rfl rfl rfl ?_
  refine wp_bipush (v := 8) d_Mo_init_427 (by decide) ?_
  refine wi_newZ (n0 := 8) (j := 24) (C' := 14) (S' := 528) d_Mo_init_429 (by decide) (by decide) (by decide) rfl rfl rfl rfl ?_
  refine wi_putr rfl rfl (by decide) d_Mo_init_431 pgf_Mo_150_12 ?_
  refine wp_aload_n d_Mo_init_434 rfl rfl rfl ?_
  refine wp_iconst (v := 0) d_Mo_init_435 rfl ?_
  refine wi_putz rfl (by decide) rfl rfl d_Mo_init_436 pgf_Mo_153_12 ?_
  refine wp_aload_n d_Mo_init_439 rfl rfl rfl ?_
  refine wp_iconst (v := (-1)) d_Mo_init_440 rfl ?_
  refine wi_puti rfl (by decide) d_Mo_init_441 pgf_Mo_157_12 ?_
  refine wp_aload_n d_Mo_init_444 rfl rfl rfl ?_
  refine wp_iconst (v := 0) d_Mo_init_445 rfl ?_
  refine wi_puti rfl (by decide) d_Mo_init_446 pgf_Mo_160_12 ?_
  refine wp_aload_n d_Mo_init_449 rfl rfl rfl ?_
  refine wp_iconst (v := 0) d_Mo_init_450 rfl ?_
  refine wi_puti rfl (by decide) d_Mo_init_451 pgf_Mo_163_12 ?_
  refine wp_aload_n d_Mo_init_454 rfl rfl rfl ?_
  refine wp_iconst (v := 0) d_Mo_init_455 rfl ?_
  refine wi_puti rfl (by decide) d_Mo_init_456 pgf_Mo_166_12 ?_
  refine wp_aload_n d_Mo_init_459 rfl rfl rfl ?_
  refine wp_iconst (v := 0) d_Mo_init_460 rfl ?_
  refine wi_puti rfl (by decide) d_Mo_init_461 pgf_Mo_169_12 ?_
  refine wp_aload_n d_Mo_init_464 rfl rfl rfl ?_
  refine wp_iconst (v := 0) d_Mo_init_465 rfl ?_
  refine wi_puti rfl (by decide) d_Mo_init_466 pgf_Mo_172_12 ?_
  refine wp_aload_n d_Mo_init_469 rfl rfl rfl ?_
  refine wp_iconst (v := 0) d_Mo_init_470 rfl ?_
  refine wi_puti rfl (by decide) d_Mo_init_471 pgf_Mo_175_12 ?_
  refine wp_aload_n d_Mo_init_474 rfl rfl rfl ?_
  refine wp_bipush (v := 6) d_Mo_init_475 (by decide) ?_
  refine wi_newI (n0 := 6) (j := 25) (C' := 13) (S' := 522) d_Mo_init_477 (by decide) (by decide) (by decide) rfl rfl rfl rfl ?_
  refine wi_putr rfl rfl (by decide) d_Mo_init_479 pgf_Mo_178_12 ?_
  refine wp_aload_n d_Mo_init_482 rfl rfl rfl ?_
  refine wp_bipush (v := 6) d_Mo_init_483 (by decide) ?_
  refine wi_newI (n0 := 6) (j := 26) (C' := 12) (S' := 516) d_Mo_init_485 (by decide) (by decide) (by decide) rfl rfl rfl rfl ?_
  refine wi_putr rfl rfl (by decide) d_Mo_init_487 pgf_Mo_181_12 ?_
  refine wp_aload_n d_Mo_init_490 rfl rfl rfl ?_
  refine wp_bipush (v := 6) d_Mo_init_491 (by decide) ?_
  refine wi_newI (n0 := 6) (j := 27) (C' := 11) (S' := 510) d_Mo_init_493 (by decide) (by decide) (by decide) rfl rfl rfl rfl ?_
  refine wi_putr rfl rfl (by decide) d_Mo_init_495 pgf_Mo_184_12 ?_
  refine wp_aload_n d_Mo_init_498 rfl rfl rfl ?_
  refine wp_bipush (v := 6) d_Mo_init_499 (by decide) ?_
  refine wi_newI (n0 := 6) (j := 28) (C' := 10) (S' := 504) d_Mo_init_501 (by decide) (by decide) (by decide) rfl rfl rfl rfl ?_
  refine wi_putr rfl rfl (by decide) d_Mo_init_503 pgf_Mo_187_12 ?_
  refine wp_aload_n d_Mo_init_506 rfl rfl rfl ?_
  refine wp_bipush (v := 6) d_Mo_init_507 (by decide) ?_
  refine wi_newI (n0 := 6) (j := 29) (C' := 9) (S' := 498) d_Mo_init_509 (by decide) (by decide) (by decide) rfl rfl rfl rfl ?_
  refine wi_putr rfl rfl (by decide) d_Mo_init_511 pgf_Mo_190_12 ?_
  refine wp_aload_n d_Mo_init_514 rfl rfl rfl ?_
  refine wp_bipush (v := 24) d_Mo_init_515 (by decide) ?_
  refine wi_newI (n0 := 24) (j := 30) (C' := 8) (S' := 474) d_Mo_init_517 (by decide) (by decide) (by decide) rfl rfl rfl rfl ?_
  refine wi_putr rfl rfl (by decide) d_Mo_init_519 pgf_Mo_193_12 ?_
  refine wp_aload_n d_Mo_init_522 rfl rfl rfl ?_
  refine wp_bipush (v := 6) d_Mo_init_523 (by decide) ?_
  refine wi_newI (n0 := 6) (j := 31) (C' := 7) (S' := 468) d_Mo_init_525 (by decide) (by decide) (by decide) rfl rfl rfl rfl ?_
  refine wi_putr rfl rfl (by decide) d_Mo_init_527 pgf_Mo_196_12 ?_
  refine wp_aload_n d_Mo_init_530 rfl rfl rfl ?_
  refine wp_bipush (v := 8) d_Mo_init_531 (by decide) ?_
  refine wi_newI (n0 := 8) (j := 32) (C' := 6) (S' := 460) d_Mo_init_533 (by decide) (by decide) (by decide) rfl rfl rfl rfl ?_
  refine wi_putr rfl rfl (by decide) d_Mo_init_535 pgf_Mo_199_12 ?_
  refine wp_aload_n d_Mo_init_538 rfl rfl rfl ?_
  refine wp_bipush (v := 8) d_Mo_init_539 (by decide) ?_
  refine wi_newZ (n0 := 8) (j := 33) (C' := 5) (S' := 452) d_Mo_init_541 (by decide) (by decide) (by decide) rfl rfl rfl rfl ?_
  refine wi_putr rfl rfl (by decide) d_Mo_init_543 pgf_Mo_202_12 ?_
  refine wp_aload_n d_Mo_init_546 rfl rfl rfl ?_
  refine wp_iconst (v := 0) d_Mo_init_547 rfl ?_
  refine wi_puti rfl (by decide) d_Mo_init_548 pgf_Mo_205_12 ?_
  refine wp_aload_n d_Mo_init_551 rfl rfl rfl ?_
  refine wp_bipush (v := 20) d_Mo_init_552 (by decide) ?_
  refine wi_newI (n0 := 20) (j := 34) (C' := 4) (S' := 432) d_Mo_init_554 (by decide) (by decide) (by decide) rfl rfl rfl rfl ?_
  refine wi_putr rfl rfl (by decide) d_Mo_init_556 pgf_Mo_208_12 ?_
  refine wp_aload_n d_Mo_init_559 rfl rfl rfl ?_
  refine wp_bipush (v := 6) d_Mo_init_560 (by decide) ?_
  refine wi_newI (n0 := 6) (j := 35) (C' := 3) (S' := 426) d_Mo_init_562 (by decide) (by decide) (by decide) rfl rfl rfl rfl ?_
  refine wp_dup d_Mo_init_564 rfl ?_
  refine wp_iconst (v := (nI 0)) d_Mo_init_565 rfl ?_
  refine wp_iconst (v := (-1)) d_Mo_init_566 rfl ?_
  refine wi_st (n0 := 6) (j := 34) (i0 := 0) d_Mo_init_567 (by decide) (by decide) rfl rfl ?_
  refine wp_dup d_Mo_init_568 rfl ?_
  refine wp_iconst (v := (nI 1)) d_Mo_init_569 rfl ?_
  refine wp_iconst (v := (-1)) d_Mo_init_570 rfl ?_
  refine wi_st (n0 := 6) (j := 34) (i0 := 1) d_Mo_init_571 (by decide) (by decide) rfl rfl ?_
  refine wp_dup d_Mo_init_572 rfl ?_
  refine wp_iconst (v := (nI 2)) d_Mo_init_573 rfl ?_
  refine wp_iconst (v := (-1)) d_Mo_init_574 rfl ?_
  refine wi_st (n0 := 6) (j := 34) (i0 := 2) d_Mo_init_575 (by decide) (by decide) rfl rfl ?_
  refine wp_dup d_Mo_init_576 rfl ?_
  refine wp_iconst (v := (nI 3)) d_Mo_init_577 rfl ?_
  refine wp_iconst (v := (-1)) d_Mo_init_578 rfl ?_
  refine wi_st (n0 := 6) (j := 34) (i0 := 3) d_Mo_init_579 (by decide) (by decide) rfl rfl ?_
  refine wp_dup d_Mo_init_580 rfl ?_
  refine wp_iconst (v := (nI 4)) d_Mo_init_581 rfl ?_
  refine wp_iconst (v := (-1)) d_Mo_init_582 rfl ?_
  refine wi_st (n0 := 6) (j := 34) (i0 := 4) d_Mo_init_583 (by decide) (by decide) rfl rfl ?_
  refine wp_dup d_Mo_init_584 rfl ?_
  refine wp_iconst (v := (nI 5)) d_Mo_init_585 rfl ?_
  refine wp_iconst (v := (-1)) d_Mo_init_586 rfl ?_
  refine wi_st (n0 := 6) (j := 34) (i0 := 5) d_Mo_init_587 (by decide) (by decide) rfl rfl ?_
  refine wi_putr rfl rfl (by decide) d_Mo_init_588 pgf_Mo_211_12 ?_
  refine wp_aload_n d_Mo_init_591 rfl rfl rfl ?_
  refine wp_bipush (v := 6) d_Mo_init_592 (by decide) ?_
  refine wi_newI (n0 := 6) (j := 36) (C' := 2) (S' := 420) d_Mo_init_594 (by decide) (by decide) (by decide) rfl rfl rfl rfl ?_
  refine wi_putr rfl rfl (by decide) d_Mo_init_596 pgf_Mo_214_12 ?_
  refine wp_aload_n d_Mo_init_599 rfl rfl rfl ?_
  refine wp_sipush (v := 360) d_Mo_init_600 (by decide) ?_
  refine wi_newJ (n0 := 360) (j := 37) (C' := 1) (S' := 60) d_Mo_init_603 (by decide) (by decide) (by decide) rfl rfl rfl rfl ?_
  refine wi_putr rfl rfl (by decide) d_Mo_init_605 pgf_Mo_217_12 ?_
  refine wp_aload_n d_Mo_init_608 rfl rfl rfl ?_
  refine wp_bipush (v := 60) d_Mo_init_609 (by decide) ?_
  refine wi_newJ (n0 := 60) (j := 38) (C' := 0) (S' := 0) d_Mo_init_611 (by decide) (by decide) (by decide) rfl rfl rfl rfl ?_
  refine wi_putr rfl rfl (by decide) d_Mo_init_613 pgf_Mo_221_12 ?_
  refine wp_return d_Mo_init_616 rfl ?_
  refine cast (congrArg (Q none) ?_) k
  unfold HI HM MA
  rw [List.append_nil, ← mo_ltr_0]
  rfl
end MOQ
