theorem zs_at {X a : px_H} {c : Nat} {e : px_E} (hc : X.length = c) : (X ++ (e :: a))[c]? = some e := by
  rw [List.getElem?_append_right (by omega), hc, Nat.sub_self]
  rfl
theorem zs_set {X a : px_H} {c : Nat} {e e' : px_E} (hc : X.length = c) : (X ++ (e :: a)).set c e' = X ++ (e' :: a) := by
  rw [List.set_append_right _ _ (by omega), hc, Nat.sub_self]
  rfl
theorem zs_len {X a : px_H} {c : Nat} (hc : X.length = c) : (X ++ a).length = c + a.length := by rw [List.length_append, hc]
section TIN
variable {G : px_G} {D : Nat} {X : px_H} {c : Nat} {Q : Option Value → px_H → Prop}
set_option maxRecDepth 4000 in
theorem c_Sc_init {x : Int32} {N : Nat} (hD : 1 ≤ D) (hN : N ≤ 2304) (hx : (36 : Int32) * (if (0 : Int32) < x then x else 0) = nI N) (hc : X.length = c) (k : Q none (X ++ [.inr (3, SCF c (c + 4) 0 0 0 5 3 40), iA 100 (fun _ => 0), iA 6 (fun _ => 0), .inl (.long, N, .inr (.inl fun _ => 0)), .inl (.char, 0, .inl fun _ => 0)])) : px_W G D 4 (106 + N) m_Sc_init 0 (px_ent 2 [.ref c, .int x]) [] (X ++ [.inr (3, [.null, .null, .null, .null, .int 0, .int 0, .int 0, .int 0, .int 0, .int 0])]) Q := by
  show px_W _ _ _ _ _ _ [some (.ref c), some (.int x)] [] _ _
  refine wp_aload_n d_Sc_init_0 rfl rfl rfl ?_
  refine wp_objInit d_Sc_init_1 w_107 (Nat.le_of_ble_eq_true rfl) (by omega) ?_
  refine wp_aload_n d_Sc_init_4 rfl rfl rfl ?_
  refine wp_bipush (v := 100) d_Sc_init_5 (by decide) ?_
  refine wp_newa (t0 := 0) (ty := .int) (n0 := 100) (a0 := (100, .inl fun _ => 0)) (C' := 3) (S' := 6 + N) d_Sc_init_7 rfl w_147 (fun _ => rfl) (fun _ h => by cases h) (fun _ => rfl) (by decide) rfl (by show 100 * 4 ≤ 536870912; omega) rfl (by omega) ?_
  rw [zs_len hc, List.append_assoc]
  show px_W _ _ _ _ _ _ _ (.ref (c + 1) :: _) (X ++ (_ :: [_])) _
  refine wp_putF d_Sc_init_9 pgf_Sc_9_3 rfl (zs_at hc) (Nat.le_of_ble_eq_true rfl) rfl rfl (zs_set hc) ?_
  refine wp_aload_n d_Sc_init_12 rfl rfl rfl ?_
  refine wp_bipush (v := 6) d_Sc_init_13 (by decide) ?_
  refine wp_newa (t0 := 0) (ty := .int) (n0 := 6) (a0 := (6, .inl fun _ => 0)) (C' := 2) (S' := N) d_Sc_init_15 rfl w_147 (fun _ => rfl) (fun _ h => by cases h) (fun _ => rfl) (by decide) rfl (by show 6 * 4 ≤ 536870912; omega) rfl (by omega) ?_
  rw [zs_len hc, List.append_assoc]
  show px_W _ _ _ _ _ _ _ (.ref (c + 2) :: _) (X ++ (_ :: [_, _])) _
  refine wp_putF d_Sc_init_17 pgf_Sc_15_3 rfl (zs_at hc) (Nat.le_of_ble_eq_true rfl) rfl rfl (zs_set hc) ?_
  refine wp_aload_n d_Sc_init_20 rfl rfl rfl ?_
  refine wp_iconst (v := 5) d_Sc_init_21 rfl ?_
  refine wp_putf d_Sc_init_22 pgf_Sc_18_3 (zs_at hc) (Nat.le_of_ble_eq_true rfl) rfl rfl (zs_set hc) ?_
  refine wp_aload_n d_Sc_init_25 rfl rfl rfl ?_
  refine wp_iconst (v := 3) d_Sc_init_26 rfl ?_
  refine wp_putf d_Sc_init_27 pgf_Sc_22_3 (zs_at hc) (Nat.le_of_ble_eq_true rfl) rfl rfl (zs_set hc) ?_
  refine wp_aload_n d_Sc_init_30 rfl rfl rfl ?_
  refine wp_bipush (v := 40) d_Sc_init_31 (by decide) ?_
  refine wp_putf d_Sc_init_33 pgf_Sc_25_3 (zs_at hc) (Nat.le_of_ble_eq_true rfl) rfl rfl (zs_set hc) ?_
  refine wp_aload_n d_Sc_init_36 rfl rfl rfl ?_
  refine wp_bipush (v := 36) d_Sc_init_37 (by decide) ?_
  refine wp_iconst (v := 0) d_Sc_init_39 rfl ?_
  refine wp_iload_n d_Sc_init_40 rfl rfl ?_
  refine wp_max d_Sc_init_41 w_108 (Nat.le_of_ble_eq_true rfl) (by omega) ?_
  refine wp_imul d_Sc_init_44 ?_
  rw [hx]
  refine wp_newa (t0 := 1) (ty := .long) (n0 := N) (a0 := (N, .inr (.inl fun _ => 0))) (C' := 1) (S' := 0) d_Sc_init_45 rfl w_148 (fun _ => rfl) (fun _ h => by cases h) (fun _ => rfl) (nI_pos (by omega)) (nI_clamp (by omega)) (by show N * 8 ≤ 536870912; omega) rfl (by omega) ?_
  rw [zs_len hc, List.append_assoc]
  show px_W _ _ _ _ _ _ _ (.ref (c + 3) :: _) (X ++ (_ :: [_, _, _])) _
  refine wp_putF d_Sc_init_47 pgf_Sc_34_3 rfl (zs_at hc) (Nat.le_of_ble_eq_true rfl) rfl rfl (zs_set hc) ?_
  refine wp_aload_n d_Sc_init_50 rfl rfl rfl ?_
  refine wp_iconst (v := 0) d_Sc_init_51 rfl ?_
  refine wp_newa (t0 := 2) (ty := .char) (n0 := 0) (a0 := (0, .inl fun _ => 0)) (C' := 0) (S' := 0) d_Sc_init_52 rfl w_149 (fun _ => rfl) (fun _ h => by cases h) (fun _ => rfl) (by decide) rfl (by show 0 * 2 ≤ 536870912; omega) rfl (by omega) ?_
  rw [zs_len hc, List.append_assoc]
  show px_W _ _ _ _ _ _ _ (.ref (c + 4) :: _) (X ++ (_ :: [_, _, _, _])) _
  refine wp_putf d_Sc_init_54 pgf_Sc_38_3 (zs_at hc) (Nat.le_of_ble_eq_true rfl) rfl rfl (zs_set hc) ?_
  refine wp_return d_Sc_init_57 rfl ?_
  exact k
end TIN
