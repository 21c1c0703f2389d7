theorem zs_a1 {X a : px_H} {c : Nat} {e0 e : px_E} (hc : X.length = c) : (X ++ (e0 :: e :: a))[c + 1]? = some e := by
  rw [List.getElem?_append_right (by omega), hc, Nat.add_sub_cancel_left]
  rfl
theorem zs_s1 {X a : px_H} {c : Nat} {e0 e e' : px_E} (hc : X.length = c) : (X ++ (e0 :: e :: a)).set (c + 1) e' = X ++ (e0 :: e' :: a) := by
  rw [List.set_append_right _ _ (by omega), hc, Nat.add_sub_cancel_left]
  rfl
theorem zs_y {X a : px_H} {y : Nat} {e : px_E} (h : X[y]? = some e) : (X ++ a)[y]? = some e := by
  rw [List.getElem?_append_left (List.getElem?_eq_some_iff.mp h).1]
  exact h
theorem six_m (y : Nat) : va_up (va_up (va_up (va_up (va_up (va_up (fun _ => none) 0 (some y)) 1 (some y)) 2 (some y)) 3 (some y)) 4 (some y)) 5 (some y) = fun q => if q < 6 then some y else none := by
  funext q
  by_cases h : q < 6
  · have h6 : q = 0 ∨ q = 1 ∨ q = 2 ∨ q = 3 ∨ q = 4 ∨ q = 5 := by omega
    rw [if_pos h]
    rcases h6 with rfl | rfl | rfl | rfl | rfl | rfl <;> rfl
  · rw [if_neg h]
    show (if q = 5 then _ else if q = 4 then _ else if q = 3 then _ else if q = 2 then _ else if q = 1 then _ else if q = 0 then _ else none) = none
    rw [if_neg (by omega), if_neg (by omega), if_neg (by omega), if_neg (by omega), if_neg (by omega), if_neg (by omega)]
section TIS
variable {G : px_G} {D : Nat} {X : px_H} {c : Nat} {Q : Option Value → px_H → Prop}
set_option maxRecDepth 4000 in
theorem c_Si_init {v m k0 : Nat} {fs : List Value} (hD : 1 ≤ D) (hc : X.length = c) (hk : k0 < 7) (hy : X[m]? = some (.inr (5 + k0, fs))) (k : Q none (X ++ [.inr (1, [.ref (c + 1), .ref (c + 2), .ref (c + 3), .ref (c + 4), .ref (c + 5), .ref (c + 6), .ref (c + 7), .int 0, .int 0, .int 0, .int 0, .int 0, .int 0, .int 0, .ref v]), rA "TubeChain$Man" 6 (fun q => if q < 6 then some m else none), iA 6 (fun _ => 0), iA 6 (fun _ => 0), iA 24 (fun _ => 0), iA 6 (fun _ => 0), iA 6 (fun _ => 0), iA 8 (fun _ => 0)])) : px_W G D 7 62 m_Si_init 0 (px_ent 4 [.ref c, .ref v, .ref m]) [] (X ++ [.inr (1, [.null, .null, .null, .null, .null, .null, .null, .int 0, .int 0, .int 0, .int 0, .int 0, .int 0, .int 0, .null])]) Q := by
  show px_W _ _ _ _ _ _ [some (.ref c), some (.ref v), some (.ref m), none] [] _ _
  refine wp_aload_n d_Si_init_0 rfl rfl rfl ?_
  refine wp_objInit d_Si_init_1 w_179 (Nat.le_of_ble_eq_true rfl) (by omega) ?_
  refine wp_aload_n d_Si_init_4 rfl rfl rfl ?_
  refine wp_bipush (v := 6) d_Si_init_5 (by decide) ?_
  refine wp_newq (t0 := 4) (n0 := 6) (C' := 6) (S' := 56) d_Si_init_7 w_180 w_181 (fun _ => rfl) (by decide) rfl (by decide) rfl rfl ?_
  rw [zs_len hc, List.append_assoc]
  show px_W _ _ _ _ _ _ _ (.ref (c + 1) :: _) (X ++ (_ :: [_])) _
  refine wp_putF d_Si_init_10 pgf_Si_11_1 rfl (zs_at hc) (Nat.le_of_ble_eq_true rfl) rfl rfl (zs_set hc) ?_
  refine wp_aload_n d_Si_init_13 rfl rfl rfl ?_
  refine wp_bipush (v := 6) d_Si_init_14 (by decide) ?_
  refine wp_newa (t0 := 0) (ty := .int) (n0 := 6) (a0 := (6, .inl fun _ => 0)) (C' := 5) (S' := 50) d_Si_init_16 rfl w_147 (fun _ => rfl) (fun _ h => by cases h) (fun _ => rfl) (by decide) rfl (by show 6 * 4 ≤ 536870912; omega) rfl (by omega) ?_
  rw [zs_len hc, List.append_assoc]
  show px_W _ _ _ _ _ _ _ (.ref (c + 2) :: _) (X ++ (_ :: [_, _])) _
  refine wp_putF d_Si_init_18 pgf_Si_17_1 rfl (zs_at hc) (Nat.le_of_ble_eq_true rfl) rfl rfl (zs_set hc) ?_
  refine wp_aload_n d_Si_init_21 rfl rfl rfl ?_
  refine wp_bipush (v := 6) d_Si_init_22 (by decide) ?_
  refine wp_newa (t0 := 0) (ty := .int) (n0 := 6) (a0 := (6, .inl fun _ => 0)) (C' := 4) (S' := 44) d_Si_init_24 rfl w_147 (fun _ => rfl) (fun _ h => by cases h) (fun _ => rfl) (by decide) rfl (by show 6 * 4 ≤ 536870912; omega) rfl (by omega) ?_
  rw [zs_len hc, List.append_assoc]
  show px_W _ _ _ _ _ _ _ (.ref (c + 3) :: _) (X ++ (_ :: [_, _, _])) _
  refine wp_putF d_Si_init_26 pgf_Si_21_1 rfl (zs_at hc) (Nat.le_of_ble_eq_true rfl) rfl rfl (zs_set hc) ?_
  refine wp_aload_n d_Si_init_29 rfl rfl rfl ?_
  refine wp_bipush (v := 24) d_Si_init_30 (by decide) ?_
  refine wp_newa (t0 := 0) (ty := .int) (n0 := 24) (a0 := (24, .inl fun _ => 0)) (C' := 3) (S' := 20) d_Si_init_32 rfl w_147 (fun _ => rfl) (fun _ h => by cases h) (fun _ => rfl) (by decide) rfl (by show 24 * 4 ≤ 536870912; omega) rfl (by omega) ?_
  rw [zs_len hc, List.append_assoc]
  show px_W _ _ _ _ _ _ _ (.ref (c + 4) :: _) (X ++ (_ :: [_, _, _, _])) _
  refine wp_putF d_Si_init_34 pgf_Si_24_1 rfl (zs_at hc) (Nat.le_of_ble_eq_true rfl) rfl rfl (zs_set hc) ?_
  refine wp_aload_n d_Si_init_37 rfl rfl rfl ?_
  refine wp_bipush (v := 6) d_Si_init_38 (by decide) ?_
  refine wp_newa (t0 := 0) (ty := .int) (n0 := 6) (a0 := (6, .inl fun _ => 0)) (C' := 2) (S' := 14) d_Si_init_40 rfl w_147 (fun _ => rfl) (fun _ h => by cases h) (fun _ => rfl) (by decide) rfl (by show 6 * 4 ≤ 536870912; omega) rfl (by omega) ?_
  rw [zs_len hc, List.append_assoc]
  show px_W _ _ _ _ _ _ _ (.ref (c + 5) :: _) (X ++ (_ :: [_, _, _, _, _])) _
  refine wp_putF d_Si_init_42 pgf_Si_27_1 rfl (zs_at hc) (Nat.le_of_ble_eq_true rfl) rfl rfl (zs_set hc) ?_
  refine wp_aload_n d_Si_init_45 rfl rfl rfl ?_
  refine wp_bipush (v := 6) d_Si_init_46 (by decide) ?_
  refine wp_newa (t0 := 0) (ty := .int) (n0 := 6) (a0 := (6, .inl fun _ => 0)) (C' := 1) (S' := 8) d_Si_init_48 rfl w_147 (fun _ => rfl) (fun _ h => by cases h) (fun _ => rfl) (by decide) rfl (by show 6 * 4 ≤ 536870912; omega) rfl (by omega) ?_
  rw [zs_len hc, List.append_assoc]
  show px_W _ _ _ _ _ _ _ (.ref (c + 6) :: _) (X ++ (_ :: [_, _, _, _, _, _])) _
  refine wp_putF d_Si_init_50 pgf_Si_30_1 rfl (zs_at hc) (Nat.le_of_ble_eq_true rfl) rfl rfl (zs_set hc) ?_
  refine wp_aload_n d_Si_init_53 rfl rfl rfl ?_
  refine wp_bipush (v := 8) d_Si_init_54 (by decide) ?_
  refine wp_newa (t0 := 0) (ty := .int) (n0 := 8) (a0 := (8, .inl fun _ => 0)) (C' := 0) (S' := 0) d_Si_init_56 rfl w_147 (fun _ => rfl) (fun _ h => by cases h) (fun _ => rfl) (by decide) rfl (by show 8 * 4 ≤ 536870912; omega) rfl (by omega) ?_
  rw [zs_len hc, List.append_assoc]
  show px_W _ _ _ _ _ _ _ (.ref (c + 7) :: _) (X ++ (_ :: [_, _, _, _, _, _, _])) _
  refine wp_putF d_Si_init_58 pgf_Si_33_1 rfl (zs_at hc) (Nat.le_of_ble_eq_true rfl) rfl rfl (zs_set hc) ?_
  refine wp_aload_n d_Si_init_61 rfl rfl rfl ?_
  refine wp_aload_n d_Si_init_62 rfl rfl rfl ?_
  refine wp_putf d_Si_init_63 pgf_Si_36_1 (zs_at hc) (Nat.le_of_ble_eq_true rfl) rfl rfl (zs_set hc) ?_
  refine wp_iconst (v := (nI 0)) d_Si_init_66 rfl ?_
  refine wp_istore_n (ls' := [_, _, _, _]) d_Si_init_67 rfl (by decide) rfl ?_
  refine wp_iload_n d_Si_init_68 rfl rfl ?_
  refine wp_bipush (v := 6) d_Si_init_69 (by decide) ?_
  refine wp_icmp_ge (t := 87) d_Si_init_71 (by decide) (fun c_71 => (absurd c_71 (by decide))) (fun c_71 => ?_)
  refine wp_aload_n d_Si_init_74 rfl rfl rfl ?_
  refine wp_getf d_Si_init_75 gf_Si_11_1 (zs_at hc) rfl ?_
  refine wp_iload_n d_Si_init_78 rfl rfl ?_
  refine wp_aload_n d_Si_init_79 rfl rfl rfl ?_
  refine wp_aast (t0 := 4) d_Si_init_80 (fun _ => rfl) (zs_a1 hc) (zs_y hy) (sub_man k0 hk) (vp_in_nI (n := 0) (N := 6) (by decide) (by decide)) (zs_s1 hc) ?_
  refine wp_iinc (v := (nI 1)) (ls' := [_, _, _, _]) d_Si_init_81 (by decide) rfl rfl rfl ?_
  refine wp_goto (t := 68) d_Si_init_84 (by decide) ?_
  refine wp_iload_n d_Si_init_68 rfl rfl ?_
  refine wp_bipush (v := 6) d_Si_init_69 (by decide) ?_
  refine wp_icmp_ge (t := 87) d_Si_init_71 (by decide) (fun c_71 => (absurd c_71 (by decide))) (fun c_71 => ?_)
  refine wp_aload_n d_Si_init_74 rfl rfl rfl ?_
  refine wp_getf d_Si_init_75 gf_Si_11_1 (zs_at hc) rfl ?_
  refine wp_iload_n d_Si_init_78 rfl rfl ?_
  refine wp_aload_n d_Si_init_79 rfl rfl rfl ?_
  refine wp_aast (t0 := 4) d_Si_init_80 (fun _ => rfl) (zs_a1 hc) (zs_y hy) (sub_man k0 hk) (vp_in_nI (n := 1) (N := 6) (by decide) (by decide)) (zs_s1 hc) ?_
  refine wp_iinc (v := (nI 2)) (ls' := [_, _, _, _]) d_Si_init_81 (by decide) rfl rfl rfl ?_
  refine wp_goto (t := 68) d_Si_init_84 (by decide) ?_
  refine wp_iload_n d_Si_init_68 rfl rfl ?_
  refine wp_bipush (v := 6) d_Si_init_69 (by decide) ?_
  refine wp_icmp_ge (t := 87) d_Si_init_71 (by decide) (fun c_71 => (absurd c_71 (by decide))) (fun c_71 => ?_)
  refine wp_aload_n d_Si_init_74 rfl rfl rfl ?_
  refine wp_getf d_Si_init_75 gf_Si_11_1 (zs_at hc) rfl ?_
  refine wp_iload_n d_Si_init_78 rfl rfl ?_
  refine wp_aload_n d_Si_init_79 rfl rfl rfl ?_
  refine wp_aast (t0 := 4) d_Si_init_80 (fun _ => rfl) (zs_a1 hc) (zs_y hy) (sub_man k0 hk) (vp_in_nI (n := 2) (N := 6) (by decide) (by decide)) (zs_s1 hc) ?_
  refine wp_iinc (v := (nI 3)) (ls' := [_, _, _, _]) d_Si_init_81 (by decide) rfl rfl rfl ?_
  refine wp_goto (t := 68) d_Si_init_84 (by decide) ?_
  refine wp_iload_n d_Si_init_68 rfl rfl ?_
  refine wp_bipush (v := 6) d_Si_init_69 (by decide) ?_
  refine wp_icmp_ge (t := 87) d_Si_init_71 (by decide) (fun c_71 => (absurd c_71 (by decide))) (fun c_71 => ?_)
  refine wp_aload_n d_Si_init_74 rfl rfl rfl ?_
  refine wp_getf d_Si_init_75 gf_Si_11_1 (zs_at hc) rfl ?_
  refine wp_iload_n d_Si_init_78 rfl rfl ?_
  refine wp_aload_n d_Si_init_79 rfl rfl rfl ?_
  refine wp_aast (t0 := 4) d_Si_init_80 (fun _ => rfl) (zs_a1 hc) (zs_y hy) (sub_man k0 hk) (vp_in_nI (n := 3) (N := 6) (by decide) (by decide)) (zs_s1 hc) ?_
  refine wp_iinc (v := (nI 4)) (ls' := [_, _, _, _]) d_Si_init_81 (by decide) rfl rfl rfl ?_
  refine wp_goto (t := 68) d_Si_init_84 (by decide) ?_
  refine wp_iload_n d_Si_init_68 rfl rfl ?_
  refine wp_bipush (v := 6) d_Si_init_69 (by decide) ?_
  refine wp_icmp_ge (t := 87) d_Si_init_71 (by decide) (fun c_71 => (absurd c_71 (by decide))) (fun c_71 => ?_)
  refine wp_aload_n d_Si_init_74 rfl rfl rfl ?_
  refine wp_getf d_Si_init_75 gf_Si_11_1 (zs_at hc) rfl ?_
  refine wp_iload_n d_Si_init_78 rfl rfl ?_
  refine wp_aload_n d_Si_init_79 rfl rfl rfl ?_
  refine wp_aast (t0 := 4) d_Si_init_80 (fun _ => rfl) (zs_a1 hc) (zs_y hy) (sub_man k0 hk) (vp_in_nI (n := 4) (N := 6) (by decide) (by decide)) (zs_s1 hc) ?_
  refine wp_iinc (v := (nI 5)) (ls' := [_, _, _, _]) d_Si_init_81 (by decide) rfl rfl rfl ?_
  refine wp_goto (t := 68) d_Si_init_84 (by decide) ?_
  refine wp_iload_n d_Si_init_68 rfl rfl ?_
  refine wp_bipush (v := 6) d_Si_init_69 (by decide) ?_
  refine wp_icmp_ge (t := 87) d_Si_init_71 (by decide) (fun c_71 => (absurd c_71 (by decide))) (fun c_71 => ?_)
  refine wp_aload_n d_Si_init_74 rfl rfl rfl ?_
  refine wp_getf d_Si_init_75 gf_Si_11_1 (zs_at hc) rfl ?_
  refine wp_iload_n d_Si_init_78 rfl rfl ?_
  refine wp_aload_n d_Si_init_79 rfl rfl rfl ?_
  refine wp_aast (t0 := 4) d_Si_init_80 (fun _ => rfl) (zs_a1 hc) (zs_y hy) (sub_man k0 hk) (vp_in_nI (n := 5) (N := 6) (by decide) (by decide)) (zs_s1 hc) ?_
  refine wp_iinc (v := (nI 6)) (ls' := [_, _, _, _]) d_Si_init_81 (by decide) rfl rfl rfl ?_
  refine wp_goto (t := 68) d_Si_init_84 (by decide) ?_
  refine wp_iload_n d_Si_init_68 rfl rfl ?_
  refine wp_bipush (v := 6) d_Si_init_69 (by decide) ?_
  refine wp_icmp_ge (t := 87) d_Si_init_71 (by decide) (fun c_71 => ?_) (fun c_71 => (absurd c_71 (by decide)))
  refine wp_return d_Si_init_87 rfl ?_
  rw [← six_m] at k
  exact k
end TIS
