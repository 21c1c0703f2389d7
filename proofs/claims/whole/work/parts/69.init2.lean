section TIM
variable {G : px_G} {D : Nat} {X : px_H} {c : Nat} {Q : Option Value → px_H → Prop}
set_option maxRecDepth 4000 in
theorem c_Ta_init  (hD : 1 ≤ D) (hc : X.length = c) (k : Q none (X ++ [.inr (4, [.ref (c + 1), .int (-1), .int 0]), .inl (.long, 60, .inr (.inl fun _ => 0))])) : px_W G D 1 60 m_Ta_init 0 (px_ent 1 [.ref c]) [] (X ++ [.inr (4, [.null, .int 0, .int 0])]) Q := by
  show px_W _ _ _ _ _ _ [some (.ref c)] [] _ _
  refine wp_aload_n d_Ta_init_0 rfl rfl rfl ?_
  refine wp_objInit d_Ta_init_1 w_281 (Nat.le_of_ble_eq_true rfl) (by omega) ?_
  refine wp_aload_n d_Ta_init_4 rfl rfl rfl ?_
  refine wp_bipush (v := 60) d_Ta_init_5 (by decide) ?_
  refine wp_newa (t0 := 1) (ty := .long) (n0 := 60) (a0 := (60, .inr (.inl fun _ => 0))) (C' := 0) (S' := 0) d_Ta_init_7 rfl w_148 (fun _ => rfl) (fun _ h => by cases h) (fun _ => rfl) (by decide) rfl (by show 60 * 8 ≤ 536870912; omega) rfl (by omega) ?_
  rw [zs_len hc, List.append_assoc]
  show px_W _ _ _ _ _ _ _ (.ref (c + 1) :: _) (X ++ (_ :: [_])) _
  refine wp_putF d_Ta_init_9 pgf_Ta_9_4 rfl (zs_at hc) (Nat.le_of_ble_eq_true rfl) rfl rfl (zs_set hc) ?_
  refine wp_aload_n d_Ta_init_12 rfl rfl rfl ?_
  refine wp_iconst (v := -1) d_Ta_init_13 rfl ?_
  refine wp_putf d_Ta_init_14 pgf_Ta_15_4 (zs_at hc) (Nat.le_of_ble_eq_true rfl) rfl rfl (zs_set hc) ?_
  refine wp_return d_Ta_init_17 rfl ?_
  exact k
set_option maxRecDepth 4000 in
theorem c_Tr_init {a b : Nat} (hD : 1 ≤ D) (hc : X.length = c) (k : Q none (X ++ [.inr (2, [.ref a, .ref b, .ref (c + 1), .int 0, .int 0, .int 0]), iA 6 (fun _ => 0)])) : px_W G D 1 6 m_Tr_init 0 (px_ent 3 [.ref c, .ref a, .ref b]) [] (X ++ [.inr (2, [.null, .null, .null, .int 0, .int 0, .int 0])]) Q := by
  show px_W _ _ _ _ _ _ [some (.ref c), some (.ref a), some (.ref b)] [] _ _
  refine wp_aload_n d_Tr_init_0 rfl rfl rfl ?_
  refine wp_objInit d_Tr_init_1 w_249 (Nat.le_of_ble_eq_true rfl) (by omega) ?_
  refine wp_aload_n d_Tr_init_4 rfl rfl rfl ?_
  refine wp_bipush (v := 6) d_Tr_init_5 (by decide) ?_
  refine wp_newa (t0 := 0) (ty := .int) (n0 := 6) (a0 := (6, .inl fun _ => 0)) (C' := 0) (S' := 0) d_Tr_init_7 rfl w_147 (fun _ => rfl) (fun _ h => by cases h) (fun _ => rfl) (by decide) rfl (by show 6 * 4 ≤ 536870912; omega) rfl (by omega) ?_
  rw [zs_len hc, List.append_assoc]
  show px_W _ _ _ _ _ _ _ (.ref (c + 1) :: _) (X ++ (_ :: [_])) _
  refine wp_putF d_Tr_init_9 pgf_Tr_9_2 rfl (zs_at hc) (Nat.le_of_ble_eq_true rfl) rfl rfl (zs_set hc) ?_
  refine wp_aload_n d_Tr_init_12 rfl rfl rfl ?_
  refine wp_aload_n d_Tr_init_13 rfl rfl rfl ?_
  refine wp_putF d_Tr_init_14 pgf_Tr_15_2 rfl (zs_at hc) (Nat.le_of_ble_eq_true rfl) rfl rfl (zs_set hc) ?_
  refine wp_aload_n d_Tr_init_17 rfl rfl rfl ?_
  refine wp_aload_n d_Tr_init_18 rfl rfl rfl ?_
  refine wp_putF d_Tr_init_19 pgf_Tr_19_2 rfl (zs_at hc) (Nat.le_of_ble_eq_true rfl) rfl rfl (zs_set hc) ?_
  refine wp_return d_Tr_init_22 rfl ?_
  exact k
end TIM
