section TRI
variable {G : px_G} {D : Nat} {X Y : px_H} {c y : Nat} {Q : Option Value → px_H → Prop}
set_option maxRecDepth 4000 in
theorem c_Tr_init2 {a b : Nat} (hD : 1 ≤ D) (hc : X.length = c) (hy : Y.length = y) (k : Q none (X ++ (.inr (2, [.ref a, .ref b, .ref (c + (y + 1)), .int 0, .int 0, .int 0]) :: (Y ++ [iA 6 (fun _ => 0)])))) : px_W G D 1 6 m_Tr_init 0 (px_ent 3 [.ref c, .ref a, .ref b]) [] (X ++ (.inr (2, [.null, .null, .null, .int 0, .int 0, .int 0]) :: Y)) Q := by
  show px_W _ _ _ _ _ _ [some (.ref c), some (.ref a), some (.ref b)] [] _ _
  refine wp_aload_n d_Tr_init_0 rfl rfl rfl ?_
  refine wp_objInit d_Tr_init_1 w_249 (Nat.le_of_ble_eq_true rfl) (by omega) ?_
  refine wp_aload_n d_Tr_init_4 rfl rfl rfl ?_
  refine wp_bipush (v := 6) d_Tr_init_5 (by decide) ?_
  refine wp_newa (t0 := 0) (ty := .int) (n0 := 6) (a0 := (6, .inl fun _ => 0)) (C' := 0) (S' := 0) d_Tr_init_7 rfl w_147 (fun _ => rfl) (fun _ h => by cases h) (fun _ => rfl) (by decide) rfl (by show 6 * 4 ≤ 536870912; omega) rfl (by omega) ?_
  rw [zs_len hc, List.append_assoc, List.cons_append, List.length_cons, hy]
  refine wp_putF d_Tr_init_9 pgf_Tr_9_2 rfl (zs_at hc) (Nat.le_of_ble_eq_true rfl) rfl rfl (zs_set hc) ?_
  refine wp_aload_n d_Tr_init_12 rfl rfl rfl ?_
  refine wp_aload_n d_Tr_init_13 rfl rfl rfl ?_
  refine wp_putF d_Tr_init_14 pgf_Tr_15_2 rfl (zs_at hc) (Nat.le_of_ble_eq_true rfl) rfl rfl (zs_set hc) ?_
  refine wp_aload_n d_Tr_init_17 rfl rfl rfl ?_
  refine wp_aload_n d_Tr_init_18 rfl rfl rfl ?_
  refine wp_putF d_Tr_init_19 pgf_Tr_19_2 rfl (zs_at hc) (Nat.le_of_ble_eq_true rfl) rfl rfl (zs_set hc) ?_
  refine wp_return d_Tr_init_22 rfl ?_
  exact k
end TRI
abbrev q_pl : px_H := [.inr (3, SCF 1 5 0 0 0 5 3 40), iA 100 (fun _ => 0), iA 6 (fun _ => 0), .inl (.long, 0, .inr (.inl fun _ => 0)), .inl (.char, 0, .inl fun _ => 0)]
abbrev q_mn : px_H := [.inr (5, [.int 0, .int 0])]
abbrev q_si (c : Nat) : px_H := [.inr (1, [.ref (c + 1), .ref (c + 2), .ref (c + 3), .ref (c + 4), .ref (c + 5), .ref (c + 6), .ref (c + 7), .int 0, .int 0, .int 0, .int 0, .int 0, .int 0, .int 0, .ref 1]), rA "TubeChain$Man" 6 (fun q => if q < 6 then some 6 else none), iA 6 (fun _ => 0), iA 6 (fun _ => 0), iA 24 (fun _ => 0), iA 6 (fun _ => 0), iA 6 (fun _ => 0), iA 8 (fun _ => 0)]
abbrev q_tr : px_E := .inr (2, [.null, .null, .null, .int 0, .int 0, .int 0])
abbrev q_tr2 : px_E := .inr (2, [.ref 24, .ref 32, .ref 40, .int 0, .int 0, .int 0])
abbrev q_ta (c : Nat) : px_H := [.inr (4, [.ref (c + 1), .int (-1), .int 0]), .inl (.long, 60, .inr (.inl fun _ => 0))]
abbrev q_no : Nat → Option Nat := fun _ => none
theorem z0_set {a : px_H} {e e' : px_E} : (e :: a).set 0 e' = e' :: a := rfl
theorem z0_at {a : px_H} {e : px_E} : (e :: a)[0]? = some e := rfl
theorem z1_set {e0 e e' : px_E} {A B : px_H} {c : Nat} (h : A.length = c) : (e0 :: (A ++ (e :: B))).set (c + 1) e' = e0 :: (A ++ (e' :: B)) := by
  show e0 :: (A ++ (e :: B)).set c e' = _
  rw [List.set_append_right _ _ (by omega), h, Nat.sub_self]
  rfl
theorem z1_at {e0 e : px_E} {A B : px_H} {c : Nat} (h : A.length = c) : (e0 :: (A ++ (e :: B)))[c + 1]? = some e := by
  show (A ++ (e :: B))[c]? = some e
  rw [List.getElem?_append_right (by omega), h, Nat.sub_self]
  rfl
/-- the class's object at first -/
def tc_K0 : tc_K := (fun s => if 6 ≤ s then (fun k => if k = 1 then -1 else 0) else fun _ => 0, fun _ _ _ => 0, fun s => if s < 4 then (fun q => if q < 6 then some 6 else none) else fun _ => none, fun _ => 1, fun _ _ => 0)
section TCI
variable {G : px_G} {D : Nat} {Q : Option Value → px_H → Prop}
set_option maxRecDepth 8000 in
set_option maxHeartbeats 1000000 in
theorem c_TC_init (hD : 4 ≤ D) (k : Q none (HC tc_K0 (fun _ => 0))) : px_W G D 57 955 m_TC_init 0 (px_ent 4 [.ref 0]) [] [.inr (0, [.null, .null, .null, .null, .null, .null, .null, .null, .int 0, .int 0, .int 0])] Q := by
  show px_W _ _ _ _ _ _ [some (.ref 0), none, none, none] [] _ _
  refine wp_aload_n d_TC_init_0 rfl rfl rfl ?_
  refine wp_objInit d_TC_init_1 w_99 (Nat.le_of_ble_eq_true rfl) (by omega) ?_
  refine wp_new (ci := 3) (N := 10) (C' := 56) (S' := 945) (fs := [.null, .null, .null, .null, .int 0, .int 0, .int 0, .int 0, .int 0, .int 0]) d_TC_init_4 ⟨(R_3, T_3, 10), rfl, rfl, w_102, w_103, w_74, fun j hj => by
    match j, hj with
    | 0, _ => exact ⟨_, rfl, rfl⟩
    | 1, _ => exact ⟨_, rfl, rfl⟩
    | 2, _ => exact ⟨_, rfl, rfl⟩
    | 3, _ => exact ⟨_, rfl, rfl⟩
    | 4, _ => exact ⟨_, rfl, rfl⟩
    | 5, _ => exact ⟨_, rfl, rfl⟩
    | 6, _ => exact ⟨_, rfl, rfl⟩
    | 7, _ => exact ⟨_, rfl, rfl⟩
    | 8, _ => exact ⟨_, rfl, rfl⟩
    | 9, _ => exact ⟨_, rfl, rfl⟩⟩ rfl rfl rfl ?_
  show px_W _ _ _ _ _ _ _ (.ref 1 :: _) ((_ :: ([])) ++ [_]) _
  refine wp_dup d_TC_init_7 rfl ?_
  refine wp_iconst (v := 0) d_TC_init_8 rfl ?_
  refine wp_callI (M' := m_Sc_init) (as := [_]) (D' := D - 1) (C1 := 4) (C2 := 52) (S1 := 106 + 0) (S2 := 839) rfl d_TC_init_9 rfl w_104 w_105 k_Sc_init (Nat.le_of_ble_eq_true rfl) rfl (Nat.le_of_ble_eq_true rfl) (by omega) rfl rfl ?_
  refine c_Sc_init (N := 0) (c := 1) (by omega) (by decide) (by decide) rfl ?_
  show px_W _ _ _ _ _ _ _ _ (_ :: (q_pl)) _
  refine wp_astore_n (ls' := [_, _, _, _]) d_TC_init_12 rfl (by decide) rfl rfl ?_
  refine wp_new (ci := 5) (N := 2) (C' := 51) (S' := 837) (fs := [.int 0, .int 0]) d_TC_init_13 ⟨(R_5, T_5, 2), rfl, rfl, w_150, w_151, w_76, fun j hj => by
    match j, hj with
    | 0, _ => exact ⟨_, rfl, rfl⟩
    | 1, _ => exact ⟨_, rfl, rfl⟩⟩ rfl rfl rfl ?_
  show px_W _ _ _ _ _ _ _ (.ref 6 :: _) ((_ :: (q_pl)) ++ [_]) _
  refine wp_dup d_TC_init_16 rfl ?_
  refine wp_iconst (v := 0) d_TC_init_17 rfl ?_
  refine wp_iconst (v := 0) d_TC_init_18 rfl ?_
  refine wp_callI (M' := m_Ma_init) (as := [_, _]) (D' := D - 1) (C1 := 0) (C2 := 51) (S1 := 0) (S2 := 837) rfl d_TC_init_19 rfl w_152 w_153 k_Ma_init (Nat.le_of_ble_eq_true rfl) rfl (Nat.le_of_ble_eq_true rfl) (by omega) rfl rfl ?_
  refine c_Ma_init (k0 := 0) (by omega) (by decide) rfl ?_
  show px_W _ _ _ _ _ _ _ _ (_ :: ((q_pl ++ q_mn))) _
  refine wp_astore_n (ls' := [_, _, _, _]) d_TC_init_22 rfl (by decide) rfl rfl ?_
  refine wp_aload_n d_TC_init_23 rfl rfl rfl ?_
  refine wp_new (ci := 1) (N := 15) (C' := 50) (S' := 822) (fs := [.null, .null, .null, .null, .null, .null, .null, .int 0, .int 0, .int 0, .int 0, .int 0, .int 0, .int 0, .null]) d_TC_init_24 ⟨(R_1, T_1, 15), rfl, rfl, w_174, w_175, w_77, fun j hj => by
    match j, hj with
    | 0, _ => exact ⟨_, rfl, rfl⟩
    | 1, _ => exact ⟨_, rfl, rfl⟩
    | 2, _ => exact ⟨_, rfl, rfl⟩
    | 3, _ => exact ⟨_, rfl, rfl⟩
    | 4, _ => exact ⟨_, rfl, rfl⟩
    | 5, _ => exact ⟨_, rfl, rfl⟩
    | 6, _ => exact ⟨_, rfl, rfl⟩
    | 7, _ => exact ⟨_, rfl, rfl⟩
    | 8, _ => exact ⟨_, rfl, rfl⟩
    | 9, _ => exact ⟨_, rfl, rfl⟩
    | 10, _ => exact ⟨_, rfl, rfl⟩
    | 11, _ => exact ⟨_, rfl, rfl⟩
    | 12, _ => exact ⟨_, rfl, rfl⟩
    | 13, _ => exact ⟨_, rfl, rfl⟩
    | 14, _ => exact ⟨_, rfl, rfl⟩⟩ rfl rfl rfl ?_
  show px_W _ _ _ _ _ _ _ (.ref 7 :: _) ((_ :: ((q_pl ++ q_mn))) ++ [_]) _
  refine wp_dup d_TC_init_27 rfl ?_
  refine wp_aload_n d_TC_init_28 rfl rfl rfl ?_
  refine wp_aload_n d_TC_init_29 rfl rfl rfl ?_
  refine wp_callI (M' := m_Si_init) (as := [_, _]) (D' := D - 1) (C1 := 7) (C2 := 43) (S1 := 62) (S2 := 760) rfl d_TC_init_30 rfl w_176 w_177 k_Si_init (Nat.le_of_ble_eq_true rfl) rfl (Nat.le_of_ble_eq_true rfl) (by omega) rfl rfl ?_
  refine c_Si_init (c := 7) (v := 1) (m := 6) (k0 := 0) (fs := [.int 0, .int 0]) (by omega) rfl (by decide) rfl ?_
  show px_W _ _ _ _ _ _ _ _ (_ :: (((q_pl ++ q_mn) ++ (q_si 7)))) _
  refine wp_putF d_TC_init_33 pgf_TC_24_0 rfl z0_at (Nat.le_of_ble_eq_true rfl) rfl rfl z0_set ?_
  refine wp_aload_n d_TC_init_36 rfl rfl rfl ?_
  refine wp_new (ci := 1) (N := 15) (C' := 42) (S' := 745) (fs := [.null, .null, .null, .null, .null, .null, .null, .int 0, .int 0, .int 0, .int 0, .int 0, .int 0, .int 0, .null]) d_TC_init_37 ⟨(R_1, T_1, 15), rfl, rfl, w_174, w_175, w_77, fun j hj => by
    match j, hj with
    | 0, _ => exact ⟨_, rfl, rfl⟩
    | 1, _ => exact ⟨_, rfl, rfl⟩
    | 2, _ => exact ⟨_, rfl, rfl⟩
    | 3, _ => exact ⟨_, rfl, rfl⟩
    | 4, _ => exact ⟨_, rfl, rfl⟩
    | 5, _ => exact ⟨_, rfl, rfl⟩
    | 6, _ => exact ⟨_, rfl, rfl⟩
    | 7, _ => exact ⟨_, rfl, rfl⟩
    | 8, _ => exact ⟨_, rfl, rfl⟩
    | 9, _ => exact ⟨_, rfl, rfl⟩
    | 10, _ => exact ⟨_, rfl, rfl⟩
    | 11, _ => exact ⟨_, rfl, rfl⟩
    | 12, _ => exact ⟨_, rfl, rfl⟩
    | 13, _ => exact ⟨_, rfl, rfl⟩
    | 14, _ => exact ⟨_, rfl, rfl⟩⟩ rfl rfl rfl ?_
  show px_W _ _ _ _ _ _ _ (.ref 15 :: _) ((_ :: (((q_pl ++ q_mn) ++ (q_si 7)))) ++ [_]) _
  refine wp_dup d_TC_init_40 rfl ?_
  refine wp_aload_n d_TC_init_41 rfl rfl rfl ?_
  refine wp_aload_n d_TC_init_42 rfl rfl rfl ?_
  refine wp_callI (M' := m_Si_init) (as := [_, _]) (D' := D - 1) (C1 := 7) (C2 := 35) (S1 := 62) (S2 := 683) rfl d_TC_init_43 rfl w_176 w_177 k_Si_init (Nat.le_of_ble_eq_true rfl) rfl (Nat.le_of_ble_eq_true rfl) (by omega) rfl rfl ?_
  refine c_Si_init (c := 15) (v := 1) (m := 6) (k0 := 0) (fs := [.int 0, .int 0]) (by omega) rfl (by decide) rfl ?_
  show px_W _ _ _ _ _ _ _ _ (_ :: ((((q_pl ++ q_mn) ++ (q_si 7)) ++ (q_si 15)))) _
  refine wp_putF d_TC_init_46 pgf_TC_30_0 rfl z0_at (Nat.le_of_ble_eq_true rfl) rfl rfl z0_set ?_
  refine wp_aload_n d_TC_init_49 rfl rfl rfl ?_
  refine wp_new (ci := 2) (N := 6) (C' := 34) (S' := 677) (fs := [.null, .null, .null, .int 0, .int 0, .int 0]) d_TC_init_50 ⟨(R_2, T_2, 6), rfl, rfl, w_244, w_245, w_78, fun j hj => by
    match j, hj with
    | 0, _ => exact ⟨_, rfl, rfl⟩
    | 1, _ => exact ⟨_, rfl, rfl⟩
    | 2, _ => exact ⟨_, rfl, rfl⟩
    | 3, _ => exact ⟨_, rfl, rfl⟩
    | 4, _ => exact ⟨_, rfl, rfl⟩
    | 5, _ => exact ⟨_, rfl, rfl⟩⟩ rfl rfl rfl ?_
  show px_W _ _ _ _ _ _ _ (.ref 23 :: _) (_ :: (((((q_pl ++ q_mn) ++ (q_si 7)) ++ (q_si 15)) ++ [q_tr]))) _
  refine wp_dup d_TC_init_53 rfl ?_
  refine wp_new (ci := 1) (N := 15) (C' := 33) (S' := 662) (fs := [.null, .null, .null, .null, .null, .null, .null, .int 0, .int 0, .int 0, .int 0, .int 0, .int 0, .int 0, .null]) d_TC_init_54 ⟨(R_1, T_1, 15), rfl, rfl, w_174, w_175, w_77, fun j hj => by
    match j, hj with
    | 0, _ => exact ⟨_, rfl, rfl⟩
    | 1, _ => exact ⟨_, rfl, rfl⟩
    | 2, _ => exact ⟨_, rfl, rfl⟩
    | 3, _ => exact ⟨_, rfl, rfl⟩
    | 4, _ => exact ⟨_, rfl, rfl⟩
    | 5, _ => exact ⟨_, rfl, rfl⟩
    | 6, _ => exact ⟨_, rfl, rfl⟩
    | 7, _ => exact ⟨_, rfl, rfl⟩
    | 8, _ => exact ⟨_, rfl, rfl⟩
    | 9, _ => exact ⟨_, rfl, rfl⟩
    | 10, _ => exact ⟨_, rfl, rfl⟩
    | 11, _ => exact ⟨_, rfl, rfl⟩
    | 12, _ => exact ⟨_, rfl, rfl⟩
    | 13, _ => exact ⟨_, rfl, rfl⟩
    | 14, _ => exact ⟨_, rfl, rfl⟩⟩ rfl rfl rfl ?_
  show px_W _ _ _ _ _ _ _ (.ref 24 :: _) ((_ :: (((((q_pl ++ q_mn) ++ (q_si 7)) ++ (q_si 15)) ++ [q_tr]))) ++ [_]) _
  refine wp_dup d_TC_init_57 rfl ?_
  refine wp_aload_n d_TC_init_58 rfl rfl rfl ?_
  refine wp_aload_n d_TC_init_59 rfl rfl rfl ?_
  refine wp_callI (M' := m_Si_init) (as := [_, _]) (D' := D - 1) (C1 := 7) (C2 := 26) (S1 := 62) (S2 := 600) rfl d_TC_init_60 rfl w_176 w_177 k_Si_init (Nat.le_of_ble_eq_true rfl) rfl (Nat.le_of_ble_eq_true rfl) (by omega) rfl rfl ?_
  refine c_Si_init (c := 24) (v := 1) (m := 6) (k0 := 0) (fs := [.int 0, .int 0]) (by omega) rfl (by decide) rfl ?_
  show px_W _ _ _ _ _ _ _ _ (_ :: ((((((q_pl ++ q_mn) ++ (q_si 7)) ++ (q_si 15)) ++ [q_tr]) ++ (q_si 24)))) _
  refine wp_new (ci := 1) (N := 15) (C' := 25) (S' := 585) (fs := [.null, .null, .null, .null, .null, .null, .null, .int 0, .int 0, .int 0, .int 0, .int 0, .int 0, .int 0, .null]) d_TC_init_63 ⟨(R_1, T_1, 15), rfl, rfl, w_174, w_175, w_77, fun j hj => by
    match j, hj with
    | 0, _ => exact ⟨_, rfl, rfl⟩
    | 1, _ => exact ⟨_, rfl, rfl⟩
    | 2, _ => exact ⟨_, rfl, rfl⟩
    | 3, _ => exact ⟨_, rfl, rfl⟩
    | 4, _ => exact ⟨_, rfl, rfl⟩
    | 5, _ => exact ⟨_, rfl, rfl⟩
    | 6, _ => exact ⟨_, rfl, rfl⟩
    | 7, _ => exact ⟨_, rfl, rfl⟩
    | 8, _ => exact ⟨_, rfl, rfl⟩
    | 9, _ => exact ⟨_, rfl, rfl⟩
    | 10, _ => exact ⟨_, rfl, rfl⟩
    | 11, _ => exact ⟨_, rfl, rfl⟩
    | 12, _ => exact ⟨_, rfl, rfl⟩
    | 13, _ => exact ⟨_, rfl, rfl⟩
    | 14, _ => exact ⟨_, rfl, rfl⟩⟩ rfl rfl rfl ?_
  show px_W _ _ _ _ _ _ _ (.ref 32 :: _) ((_ :: ((((((q_pl ++ q_mn) ++ (q_si 7)) ++ (q_si 15)) ++ [q_tr]) ++ (q_si 24)))) ++ [_]) _
  refine wp_dup d_TC_init_66 rfl ?_
  refine wp_aload_n d_TC_init_67 rfl rfl rfl ?_
  refine wp_aload_n d_TC_init_68 rfl rfl rfl ?_
  refine wp_callI (M' := m_Si_init) (as := [_, _]) (D' := D - 1) (C1 := 7) (C2 := 18) (S1 := 62) (S2 := 523) rfl d_TC_init_69 rfl w_176 w_177 k_Si_init (Nat.le_of_ble_eq_true rfl) rfl (Nat.le_of_ble_eq_true rfl) (by omega) rfl rfl ?_
  refine c_Si_init (c := 32) (v := 1) (m := 6) (k0 := 0) (fs := [.int 0, .int 0]) (by omega) rfl (by decide) rfl ?_
  show px_W _ _ _ _ _ _ _ _ (_ :: (((((((q_pl ++ q_mn) ++ (q_si 7)) ++ (q_si 15)) ++ [q_tr]) ++ (q_si 24)) ++ (q_si 32)))) _
  refine wp_callI (M' := m_Tr_init) (as := [_, _]) (D' := D - 1) (C1 := 1) (C2 := 17) (S1 := 6) (S2 := 517) rfl d_TC_init_72 rfl w_246 w_247 k_Tr_init (Nat.le_of_ble_eq_true rfl) rfl (Nat.le_of_ble_eq_true rfl) (by omega) rfl rfl ?_
  refine c_Tr_init2 (X := _ :: ((((q_pl ++ q_mn) ++ (q_si 7)) ++ (q_si 15)))) (Y := ((q_si 24) ++ (q_si 32))) (c := 23) (y := 16) (by omega) rfl rfl ?_
  show px_W _ _ _ _ _ _ _ _ (_ :: ((((((((q_pl ++ q_mn) ++ (q_si 7)) ++ (q_si 15)) ++ [q_tr2]) ++ (q_si 24)) ++ (q_si 32)) ++ [iA 6 (fun _ => 0)]))) _
  refine wp_putF d_TC_init_75 pgf_TC_38_0 rfl z0_at (Nat.le_of_ble_eq_true rfl) rfl rfl z0_set ?_
  refine wp_aload_n d_TC_init_78 rfl rfl rfl ?_
  refine wp_bipush (v := 6) d_TC_init_79 (by decide) ?_
  refine wp_newq (t0 := 5) (n0 := 6) (C' := 16) (S' := 511) d_TC_init_81 w_102 w_274 (fun _ => rfl) (by decide) rfl (by decide) rfl rfl ?_
  show px_W _ _ _ _ _ _ _ (.ref 41 :: _) (_ :: (((((((((q_pl ++ q_mn) ++ (q_si 7)) ++ (q_si 15)) ++ [q_tr2]) ++ (q_si 24)) ++ (q_si 32)) ++ [iA 6 (fun _ => 0)]) ++ [rA "TubeChain$Scaffold" 6 (q_no)]))) _
  refine wp_putF d_TC_init_84 pgf_TC_42_0 rfl z0_at (Nat.le_of_ble_eq_true rfl) rfl rfl z0_set ?_
  refine wp_aload_n d_TC_init_87 rfl rfl rfl ?_
  refine wp_bipush (v := 100) d_TC_init_88 (by decide) ?_
  refine wp_newa (t0 := 2) (ty := .char) (n0 := 100) (a0 := (100, .inl fun _ => 0)) (C' := 15) (S' := 411) d_TC_init_90 rfl w_149 (fun _ => rfl) (fun _ h => by cases h) (fun _ => rfl) (by decide) rfl (by show 100 * 2 ≤ 536870912; omega) rfl rfl ?_
  show px_W _ _ _ _ _ _ _ (.ref 42 :: _) (_ :: ((((((((((q_pl ++ q_mn) ++ (q_si 7)) ++ (q_si 15)) ++ [q_tr2]) ++ (q_si 24)) ++ (q_si 32)) ++ [iA 6 (fun _ => 0)]) ++ [rA "TubeChain$Scaffold" 6 (q_no)]) ++ [.inl (.char, 100, .inl fun _ => 0)]))) _
  refine wp_putF d_TC_init_92 pgf_TC_46_0 rfl z0_at (Nat.le_of_ble_eq_true rfl) rfl rfl z0_set ?_
  refine wp_aload_n d_TC_init_95 rfl rfl rfl ?_
  refine wp_bipush (v := 6) d_TC_init_96 (by decide) ?_
  refine wp_newq (t0 := 6) (n0 := 6) (C' := 14) (S' := 405) d_TC_init_98 w_275 w_276 (fun _ => rfl) (by decide) rfl (by decide) rfl rfl ?_
  show px_W _ _ _ _ _ _ _ (.ref 43 :: _) (_ :: ((((((((((q_pl ++ q_mn) ++ (q_si 7)) ++ (q_si 15)) ++ [q_tr2]) ++ (q_si 24)) ++ (q_si 32)) ++ [iA 6 (fun _ => 0)]) ++ [rA "TubeChain$Scaffold" 6 (q_no)]) ++ [.inl (.char, 100, .inl fun _ => 0)]) ++ (rA "TubeChain$Tape" 6 (q_no) :: []))) _
  refine wp_putF d_TC_init_101 pgf_TC_52_0 rfl z0_at (Nat.le_of_ble_eq_true rfl) rfl rfl z0_set ?_
  refine wp_iconst (v := (nI 0)) d_TC_init_104 rfl ?_
  refine wp_istore_n (ls' := [_, _, _, _]) d_TC_init_105 rfl (by decide) rfl ?_
  refine wp_iload_n d_TC_init_106 rfl rfl ?_
  refine wp_bipush (v := 6) d_TC_init_107 (by decide) ?_
  refine wp_icmp_ge (t := 131) d_TC_init_109 (by decide) (fun c_109 => (absurd c_109 (by decide))) (fun c_109 => ?_)
  refine wp_aload_n d_TC_init_112 rfl rfl rfl ?_
  refine wp_getf d_TC_init_113 gf_TC_52_0 z0_at rfl ?_
  refine wp_iload_n d_TC_init_116 rfl rfl ?_
  refine wp_new (ci := 4) (N := 3) (C' := 13) (S' := 402) (fs := [.null, .int 0, .int 0]) d_TC_init_117 ⟨(R_4, T_4, 3), rfl, rfl, w_275, w_277, w_79, fun j hj => by
    match j, hj with
    | 0, _ => exact ⟨_, rfl, rfl⟩
    | 1, _ => exact ⟨_, rfl, rfl⟩
    | 2, _ => exact ⟨_, rfl, rfl⟩⟩ rfl rfl rfl ?_
  show px_W _ _ _ _ _ _ _ (.ref 44 :: _) ((_ :: ((((((((((q_pl ++ q_mn) ++ (q_si 7)) ++ (q_si 15)) ++ [q_tr2]) ++ (q_si 24)) ++ (q_si 32)) ++ [iA 6 (fun _ => 0)]) ++ [rA "TubeChain$Scaffold" 6 (q_no)]) ++ [.inl (.char, 100, .inl fun _ => 0)]) ++ (rA "TubeChain$Tape" 6 (q_no) :: []))) ++ [_]) _
  refine wp_dup d_TC_init_120 rfl ?_
  refine wp_callIN (M' := m_Ta_init) (as := []) (D' := D - 1) (C1 := 1) (C2 := 12) (S1 := 60) (S2 := 342) rfl d_TC_init_121 rfl w_278 w_279 k_Ta_init (Nat.le_of_ble_eq_true rfl) rfl (Nat.le_of_ble_eq_true rfl) (by omega) rfl rfl ?_
  refine c_Ta_init (c := 44) (by omega) rfl ?_
  show px_W _ _ _ _ _ _ _ _ (_ :: ((((((((((q_pl ++ q_mn) ++ (q_si 7)) ++ (q_si 15)) ++ [q_tr2]) ++ (q_si 24)) ++ (q_si 32)) ++ [iA 6 (fun _ => 0)]) ++ [rA "TubeChain$Scaffold" 6 (q_no)]) ++ [.inl (.char, 100, .inl fun _ => 0)]) ++ (rA "TubeChain$Tape" 6 (q_no) :: ((q_ta 44))))) _
  refine wp_aast (t0 := 6) (ci := 4) (fs := [.ref (44 + 1), .int (-1), .int 0]) d_TC_init_124 (fun _ => rfl) (z1_at (A := (((((((((q_pl ++ q_mn) ++ (q_si 7)) ++ (q_si 15)) ++ [q_tr2]) ++ (q_si 24)) ++ (q_si 32)) ++ [iA 6 (fun _ => 0)]) ++ [rA "TubeChain$Scaffold" 6 (q_no)]) ++ [.inl (.char, 100, .inl fun _ => 0)])) (c := 42) rfl) rfl (show px_sub 4 "TubeChain$Tape" from ⟨_, rfl, Or.inl rfl⟩) (vp_in_nI (n := 0) (N := 6) (by decide) (by decide)) (z1_set (A := (((((((((q_pl ++ q_mn) ++ (q_si 7)) ++ (q_si 15)) ++ [q_tr2]) ++ (q_si 24)) ++ (q_si 32)) ++ [iA 6 (fun _ => 0)]) ++ [rA "TubeChain$Scaffold" 6 (q_no)]) ++ [.inl (.char, 100, .inl fun _ => 0)])) (c := 42) rfl) ?_
  show px_W _ _ _ _ _ _ _ _ (_ :: ((((((((((q_pl ++ q_mn) ++ (q_si 7)) ++ (q_si 15)) ++ [q_tr2]) ++ (q_si 24)) ++ (q_si 32)) ++ [iA 6 (fun _ => 0)]) ++ [rA "TubeChain$Scaffold" 6 (q_no)]) ++ [.inl (.char, 100, .inl fun _ => 0)]) ++ (rA "TubeChain$Tape" 6 (va_up (q_no) 0 (some 44)) :: ((q_ta 44))))) _
  refine wp_iinc (v := (nI 1)) (ls' := [_, _, _, _]) d_TC_init_125 (by decide) rfl rfl rfl ?_
  refine wp_goto (t := 106) d_TC_init_128 (by decide) ?_
  refine wp_iload_n d_TC_init_106 rfl rfl ?_
  refine wp_bipush (v := 6) d_TC_init_107 (by decide) ?_
  refine wp_icmp_ge (t := 131) d_TC_init_109 (by decide) (fun c_109 => (absurd c_109 (by decide))) (fun c_109 => ?_)
  refine wp_aload_n d_TC_init_112 rfl rfl rfl ?_
  refine wp_getf d_TC_init_113 gf_TC_52_0 z0_at rfl ?_
  refine wp_iload_n d_TC_init_116 rfl rfl ?_
  refine wp_new (ci := 4) (N := 3) (C' := 11) (S' := 339) (fs := [.null, .int 0, .int 0]) d_TC_init_117 ⟨(R_4, T_4, 3), rfl, rfl, w_275, w_277, w_79, fun j hj => by
    match j, hj with
    | 0, _ => exact ⟨_, rfl, rfl⟩
    | 1, _ => exact ⟨_, rfl, rfl⟩
    | 2, _ => exact ⟨_, rfl, rfl⟩⟩ rfl rfl rfl ?_
  show px_W _ _ _ _ _ _ _ (.ref 46 :: _) ((_ :: ((((((((((q_pl ++ q_mn) ++ (q_si 7)) ++ (q_si 15)) ++ [q_tr2]) ++ (q_si 24)) ++ (q_si 32)) ++ [iA 6 (fun _ => 0)]) ++ [rA "TubeChain$Scaffold" 6 (q_no)]) ++ [.inl (.char, 100, .inl fun _ => 0)]) ++ (rA "TubeChain$Tape" 6 (va_up (q_no) 0 (some 44)) :: ((q_ta 44))))) ++ [_]) _
  refine wp_dup d_TC_init_120 rfl ?_
  refine wp_callIN (M' := m_Ta_init) (as := []) (D' := D - 1) (C1 := 1) (C2 := 10) (S1 := 60) (S2 := 279) rfl d_TC_init_121 rfl w_278 w_279 k_Ta_init (Nat.le_of_ble_eq_true rfl) rfl (Nat.le_of_ble_eq_true rfl) (by omega) rfl rfl ?_
  refine c_Ta_init (c := 46) (by omega) rfl ?_
  show px_W _ _ _ _ _ _ _ _ (_ :: ((((((((((q_pl ++ q_mn) ++ (q_si 7)) ++ (q_si 15)) ++ [q_tr2]) ++ (q_si 24)) ++ (q_si 32)) ++ [iA 6 (fun _ => 0)]) ++ [rA "TubeChain$Scaffold" 6 (q_no)]) ++ [.inl (.char, 100, .inl fun _ => 0)]) ++ (rA "TubeChain$Tape" 6 (va_up (q_no) 0 (some 44)) :: (((q_ta 44) ++ (q_ta 46)))))) _
  refine wp_aast (t0 := 6) (ci := 4) (fs := [.ref (46 + 1), .int (-1), .int 0]) d_TC_init_124 (fun _ => rfl) (z1_at (A := (((((((((q_pl ++ q_mn) ++ (q_si 7)) ++ (q_si 15)) ++ [q_tr2]) ++ (q_si 24)) ++ (q_si 32)) ++ [iA 6 (fun _ => 0)]) ++ [rA "TubeChain$Scaffold" 6 (q_no)]) ++ [.inl (.char, 100, .inl fun _ => 0)])) (c := 42) rfl) rfl (show px_sub 4 "TubeChain$Tape" from ⟨_, rfl, Or.inl rfl⟩) (vp_in_nI (n := 1) (N := 6) (by decide) (by decide)) (z1_set (A := (((((((((q_pl ++ q_mn) ++ (q_si 7)) ++ (q_si 15)) ++ [q_tr2]) ++ (q_si 24)) ++ (q_si 32)) ++ [iA 6 (fun _ => 0)]) ++ [rA "TubeChain$Scaffold" 6 (q_no)]) ++ [.inl (.char, 100, .inl fun _ => 0)])) (c := 42) rfl) ?_
  show px_W _ _ _ _ _ _ _ _ (_ :: ((((((((((q_pl ++ q_mn) ++ (q_si 7)) ++ (q_si 15)) ++ [q_tr2]) ++ (q_si 24)) ++ (q_si 32)) ++ [iA 6 (fun _ => 0)]) ++ [rA "TubeChain$Scaffold" 6 (q_no)]) ++ [.inl (.char, 100, .inl fun _ => 0)]) ++ (rA "TubeChain$Tape" 6 (va_up (va_up (q_no) 0 (some 44)) 1 (some 46)) :: (((q_ta 44) ++ (q_ta 46)))))) _
  refine wp_iinc (v := (nI 2)) (ls' := [_, _, _, _]) d_TC_init_125 (by decide) rfl rfl rfl ?_
  refine wp_goto (t := 106) d_TC_init_128 (by decide) ?_
  refine wp_iload_n d_TC_init_106 rfl rfl ?_
  refine wp_bipush (v := 6) d_TC_init_107 (by decide) ?_
  refine wp_icmp_ge (t := 131) d_TC_init_109 (by decide) (fun c_109 => (absurd c_109 (by decide))) (fun c_109 => ?_)
  refine wp_aload_n d_TC_init_112 rfl rfl rfl ?_
  refine wp_getf d_TC_init_113 gf_TC_52_0 z0_at rfl ?_
  refine wp_iload_n d_TC_init_116 rfl rfl ?_
  refine wp_new (ci := 4) (N := 3) (C' := 9) (S' := 276) (fs := [.null, .int 0, .int 0]) d_TC_init_117 ⟨(R_4, T_4, 3), rfl, rfl, w_275, w_277, w_79, fun j hj => by
    match j, hj with
    | 0, _ => exact ⟨_, rfl, rfl⟩
    | 1, _ => exact ⟨_, rfl, rfl⟩
    | 2, _ => exact ⟨_, rfl, rfl⟩⟩ rfl rfl rfl ?_
  show px_W _ _ _ _ _ _ _ (.ref 48 :: _) ((_ :: ((((((((((q_pl ++ q_mn) ++ (q_si 7)) ++ (q_si 15)) ++ [q_tr2]) ++ (q_si 24)) ++ (q_si 32)) ++ [iA 6 (fun _ => 0)]) ++ [rA "TubeChain$Scaffold" 6 (q_no)]) ++ [.inl (.char, 100, .inl fun _ => 0)]) ++ (rA "TubeChain$Tape" 6 (va_up (va_up (q_no) 0 (some 44)) 1 (some 46)) :: (((q_ta 44) ++ (q_ta 46)))))) ++ [_]) _
  refine wp_dup d_TC_init_120 rfl ?_
  refine wp_callIN (M' := m_Ta_init) (as := []) (D' := D - 1) (C1 := 1) (C2 := 8) (S1 := 60) (S2 := 216) rfl d_TC_init_121 rfl w_278 w_279 k_Ta_init (Nat.le_of_ble_eq_true rfl) rfl (Nat.le_of_ble_eq_true rfl) (by omega) rfl rfl ?_
  refine c_Ta_init (c := 48) (by omega) rfl ?_
  show px_W _ _ _ _ _ _ _ _ (_ :: ((((((((((q_pl ++ q_mn) ++ (q_si 7)) ++ (q_si 15)) ++ [q_tr2]) ++ (q_si 24)) ++ (q_si 32)) ++ [iA 6 (fun _ => 0)]) ++ [rA "TubeChain$Scaffold" 6 (q_no)]) ++ [.inl (.char, 100, .inl fun _ => 0)]) ++ (rA "TubeChain$Tape" 6 (va_up (va_up (q_no) 0 (some 44)) 1 (some 46)) :: ((((q_ta 44) ++ (q_ta 46)) ++ (q_ta 48)))))) _
  refine wp_aast (t0 := 6) (ci := 4) (fs := [.ref (48 + 1), .int (-1), .int 0]) d_TC_init_124 (fun _ => rfl) (z1_at (A := (((((((((q_pl ++ q_mn) ++ (q_si 7)) ++ (q_si 15)) ++ [q_tr2]) ++ (q_si 24)) ++ (q_si 32)) ++ [iA 6 (fun _ => 0)]) ++ [rA "TubeChain$Scaffold" 6 (q_no)]) ++ [.inl (.char, 100, .inl fun _ => 0)])) (c := 42) rfl) rfl (show px_sub 4 "TubeChain$Tape" from ⟨_, rfl, Or.inl rfl⟩) (vp_in_nI (n := 2) (N := 6) (by decide) (by decide)) (z1_set (A := (((((((((q_pl ++ q_mn) ++ (q_si 7)) ++ (q_si 15)) ++ [q_tr2]) ++ (q_si 24)) ++ (q_si 32)) ++ [iA 6 (fun _ => 0)]) ++ [rA "TubeChain$Scaffold" 6 (q_no)]) ++ [.inl (.char, 100, .inl fun _ => 0)])) (c := 42) rfl) ?_
  show px_W _ _ _ _ _ _ _ _ (_ :: ((((((((((q_pl ++ q_mn) ++ (q_si 7)) ++ (q_si 15)) ++ [q_tr2]) ++ (q_si 24)) ++ (q_si 32)) ++ [iA 6 (fun _ => 0)]) ++ [rA "TubeChain$Scaffold" 6 (q_no)]) ++ [.inl (.char, 100, .inl fun _ => 0)]) ++ (rA "TubeChain$Tape" 6 (va_up (va_up (va_up (q_no) 0 (some 44)) 1 (some 46)) 2 (some 48)) :: ((((q_ta 44) ++ (q_ta 46)) ++ (q_ta 48)))))) _
  refine wp_iinc (v := (nI 3)) (ls' := [_, _, _, _]) d_TC_init_125 (by decide) rfl rfl rfl ?_
  refine wp_goto (t := 106) d_TC_init_128 (by decide) ?_
  refine wp_iload_n d_TC_init_106 rfl rfl ?_
  refine wp_bipush (v := 6) d_TC_init_107 (by decide) ?_
  refine wp_icmp_ge (t := 131) d_TC_init_109 (by decide) (fun c_109 => (absurd c_109 (by decide))) (fun c_109 => ?_)
  refine wp_aload_n d_TC_init_112 rfl rfl rfl ?_
  refine wp_getf d_TC_init_113 gf_TC_52_0 z0_at rfl ?_
  refine wp_iload_n d_TC_init_116 rfl rfl ?_
  refine wp_new (ci := 4) (N := 3) (C' := 7) (S' := 213) (fs := [.null, .int 0, .int 0]) d_TC_init_117 ⟨(R_4, T_4, 3), rfl, rfl, w_275, w_277, w_79, fun j hj => by
    match j, hj with
    | 0, _ => exact ⟨_, rfl, rfl⟩
    | 1, _ => exact ⟨_, rfl, rfl⟩
    | 2, _ => exact ⟨_, rfl, rfl⟩⟩ rfl rfl rfl ?_
  show px_W _ _ _ _ _ _ _ (.ref 50 :: _) ((_ :: ((((((((((q_pl ++ q_mn) ++ (q_si 7)) ++ (q_si 15)) ++ [q_tr2]) ++ (q_si 24)) ++ (q_si 32)) ++ [iA 6 (fun _ => 0)]) ++ [rA "TubeChain$Scaffold" 6 (q_no)]) ++ [.inl (.char, 100, .inl fun _ => 0)]) ++ (rA "TubeChain$Tape" 6 (va_up (va_up (va_up (q_no) 0 (some 44)) 1 (some 46)) 2 (some 48)) :: ((((q_ta 44) ++ (q_ta 46)) ++ (q_ta 48)))))) ++ [_]) _
  refine wp_dup d_TC_init_120 rfl ?_
  refine wp_callIN (M' := m_Ta_init) (as := []) (D' := D - 1) (C1 := 1) (C2 := 6) (S1 := 60) (S2 := 153) rfl d_TC_init_121 rfl w_278 w_279 k_Ta_init (Nat.le_of_ble_eq_true rfl) rfl (Nat.le_of_ble_eq_true rfl) (by omega) rfl rfl ?_
  refine c_Ta_init (c := 50) (by omega) rfl ?_
  show px_W _ _ _ _ _ _ _ _ (_ :: ((((((((((q_pl ++ q_mn) ++ (q_si 7)) ++ (q_si 15)) ++ [q_tr2]) ++ (q_si 24)) ++ (q_si 32)) ++ [iA 6 (fun _ => 0)]) ++ [rA "TubeChain$Scaffold" 6 (q_no)]) ++ [.inl (.char, 100, .inl fun _ => 0)]) ++ (rA "TubeChain$Tape" 6 (va_up (va_up (va_up (q_no) 0 (some 44)) 1 (some 46)) 2 (some 48)) :: (((((q_ta 44) ++ (q_ta 46)) ++ (q_ta 48)) ++ (q_ta 50)))))) _
  refine wp_aast (t0 := 6) (ci := 4) (fs := [.ref (50 + 1), .int (-1), .int 0]) d_TC_init_124 (fun _ => rfl) (z1_at (A := (((((((((q_pl ++ q_mn) ++ (q_si 7)) ++ (q_si 15)) ++ [q_tr2]) ++ (q_si 24)) ++ (q_si 32)) ++ [iA 6 (fun _ => 0)]) ++ [rA "TubeChain$Scaffold" 6 (q_no)]) ++ [.inl (.char, 100, .inl fun _ => 0)])) (c := 42) rfl) rfl (show px_sub 4 "TubeChain$Tape" from ⟨_, rfl, Or.inl rfl⟩) (vp_in_nI (n := 3) (N := 6) (by decide) (by decide)) (z1_set (A := (((((((((q_pl ++ q_mn) ++ (q_si 7)) ++ (q_si 15)) ++ [q_tr2]) ++ (q_si 24)) ++ (q_si 32)) ++ [iA 6 (fun _ => 0)]) ++ [rA "TubeChain$Scaffold" 6 (q_no)]) ++ [.inl (.char, 100, .inl fun _ => 0)])) (c := 42) rfl) ?_
  show px_W _ _ _ _ _ _ _ _ (_ :: ((((((((((q_pl ++ q_mn) ++ (q_si 7)) ++ (q_si 15)) ++ [q_tr2]) ++ (q_si 24)) ++ (q_si 32)) ++ [iA 6 (fun _ => 0)]) ++ [rA "TubeChain$Scaffold" 6 (q_no)]) ++ [.inl (.char, 100, .inl fun _ => 0)]) ++ (rA "TubeChain$Tape" 6 (va_up (va_up (va_up (va_up (q_no) 0 (some 44)) 1 (some 46)) 2 (some 48)) 3 (some 50)) :: (((((q_ta 44) ++ (q_ta 46)) ++ (q_ta 48)) ++ (q_ta 50)))))) _
  refine wp_iinc (v := (nI 4)) (ls' := [_, _, _, _]) d_TC_init_125 (by decide) rfl rfl rfl ?_
  refine wp_goto (t := 106) d_TC_init_128 (by decide) ?_
  refine wp_iload_n d_TC_init_106 rfl rfl ?_
  refine wp_bipush (v := 6) d_TC_init_107 (by decide) ?_
  refine wp_icmp_ge (t := 131) d_TC_init_109 (by decide) (fun c_109 => (absurd c_109 (by decide))) (fun c_109 => ?_)
  refine wp_aload_n d_TC_init_112 rfl rfl rfl ?_
  refine wp_getf d_TC_init_113 gf_TC_52_0 z0_at rfl ?_
  refine wp_iload_n d_TC_init_116 rfl rfl ?_
  refine wp_new (ci := 4) (N := 3) (C' := 5) (S' := 150) (fs := [.null, .int 0, .int 0]) d_TC_init_117 ⟨(R_4, T_4, 3), rfl, rfl, w_275, w_277, w_79, fun j hj => by
    match j, hj with
    | 0, _ => exact ⟨_, rfl, rfl⟩
    | 1, _ => exact ⟨_, rfl, rfl⟩
    | 2, _ => exact ⟨_, rfl, rfl⟩⟩ rfl rfl rfl ?_
  show px_W _ _ _ _ _ _ _ (.ref 52 :: _) ((_ :: ((((((((((q_pl ++ q_mn) ++ (q_si 7)) ++ (q_si 15)) ++ [q_tr2]) ++ (q_si 24)) ++ (q_si 32)) ++ [iA 6 (fun _ => 0)]) ++ [rA "TubeChain$Scaffold" 6 (q_no)]) ++ [.inl (.char, 100, .inl fun _ => 0)]) ++ (rA "TubeChain$Tape" 6 (va_up (va_up (va_up (va_up (q_no) 0 (some 44)) 1 (some 46)) 2 (some 48)) 3 (some 50)) :: (((((q_ta 44) ++ (q_ta 46)) ++ (q_ta 48)) ++ (q_ta 50)))))) ++ [_]) _
  refine wp_dup d_TC_init_120 rfl ?_
  refine wp_callIN (M' := m_Ta_init) (as := []) (D' := D - 1) (C1 := 1) (C2 := 4) (S1 := 60) (S2 := 90) rfl d_TC_init_121 rfl w_278 w_279 k_Ta_init (Nat.le_of_ble_eq_true rfl) rfl (Nat.le_of_ble_eq_true rfl) (by omega) rfl rfl ?_
  refine c_Ta_init (c := 52) (by omega) rfl ?_
  show px_W _ _ _ _ _ _ _ _ (_ :: ((((((((((q_pl ++ q_mn) ++ (q_si 7)) ++ (q_si 15)) ++ [q_tr2]) ++ (q_si 24)) ++ (q_si 32)) ++ [iA 6 (fun _ => 0)]) ++ [rA "TubeChain$Scaffold" 6 (q_no)]) ++ [.inl (.char, 100, .inl fun _ => 0)]) ++ (rA "TubeChain$Tape" 6 (va_up (va_up (va_up (va_up (q_no) 0 (some 44)) 1 (some 46)) 2 (some 48)) 3 (some 50)) :: ((((((q_ta 44) ++ (q_ta 46)) ++ (q_ta 48)) ++ (q_ta 50)) ++ (q_ta 52)))))) _
  refine wp_aast (t0 := 6) (ci := 4) (fs := [.ref (52 + 1), .int (-1), .int 0]) d_TC_init_124 (fun _ => rfl) (z1_at (A := (((((((((q_pl ++ q_mn) ++ (q_si 7)) ++ (q_si 15)) ++ [q_tr2]) ++ (q_si 24)) ++ (q_si 32)) ++ [iA 6 (fun _ => 0)]) ++ [rA "TubeChain$Scaffold" 6 (q_no)]) ++ [.inl (.char, 100, .inl fun _ => 0)])) (c := 42) rfl) rfl (show px_sub 4 "TubeChain$Tape" from ⟨_, rfl, Or.inl rfl⟩) (vp_in_nI (n := 4) (N := 6) (by decide) (by decide)) (z1_set (A := (((((((((q_pl ++ q_mn) ++ (q_si 7)) ++ (q_si 15)) ++ [q_tr2]) ++ (q_si 24)) ++ (q_si 32)) ++ [iA 6 (fun _ => 0)]) ++ [rA "TubeChain$Scaffold" 6 (q_no)]) ++ [.inl (.char, 100, .inl fun _ => 0)])) (c := 42) rfl) ?_
  show px_W _ _ _ _ _ _ _ _ (_ :: ((((((((((q_pl ++ q_mn) ++ (q_si 7)) ++ (q_si 15)) ++ [q_tr2]) ++ (q_si 24)) ++ (q_si 32)) ++ [iA 6 (fun _ => 0)]) ++ [rA "TubeChain$Scaffold" 6 (q_no)]) ++ [.inl (.char, 100, .inl fun _ => 0)]) ++ (rA "TubeChain$Tape" 6 (va_up (va_up (va_up (va_up (va_up (q_no) 0 (some 44)) 1 (some 46)) 2 (some 48)) 3 (some 50)) 4 (some 52)) :: ((((((q_ta 44) ++ (q_ta 46)) ++ (q_ta 48)) ++ (q_ta 50)) ++ (q_ta 52)))))) _
  refine wp_iinc (v := (nI 5)) (ls' := [_, _, _, _]) d_TC_init_125 (by decide) rfl rfl rfl ?_
  refine wp_goto (t := 106) d_TC_init_128 (by decide) ?_
  refine wp_iload_n d_TC_init_106 rfl rfl ?_
  refine wp_bipush (v := 6) d_TC_init_107 (by decide) ?_
  refine wp_icmp_ge (t := 131) d_TC_init_109 (by decide) (fun c_109 => (absurd c_109 (by decide))) (fun c_109 => ?_)
  refine wp_aload_n d_TC_init_112 rfl rfl rfl ?_
  refine wp_getf d_TC_init_113 gf_TC_52_0 z0_at rfl ?_
  refine wp_iload_n d_TC_init_116 rfl rfl ?_
  refine wp_new (ci := 4) (N := 3) (C' := 3) (S' := 87) (fs := [.null, .int 0, .int 0]) d_TC_init_117 ⟨(R_4, T_4, 3), rfl, rfl, w_275, w_277, w_79, fun j hj => by
    match j, hj with
    | 0, _ => exact ⟨_, rfl, rfl⟩
    | 1, _ => exact ⟨_, rfl, rfl⟩
    | 2, _ => exact ⟨_, rfl, rfl⟩⟩ rfl rfl rfl ?_
  show px_W _ _ _ _ _ _ _ (.ref 54 :: _) ((_ :: ((((((((((q_pl ++ q_mn) ++ (q_si 7)) ++ (q_si 15)) ++ [q_tr2]) ++ (q_si 24)) ++ (q_si 32)) ++ [iA 6 (fun _ => 0)]) ++ [rA "TubeChain$Scaffold" 6 (q_no)]) ++ [.inl (.char, 100, .inl fun _ => 0)]) ++ (rA "TubeChain$Tape" 6 (va_up (va_up (va_up (va_up (va_up (q_no) 0 (some 44)) 1 (some 46)) 2 (some 48)) 3 (some 50)) 4 (some 52)) :: ((((((q_ta 44) ++ (q_ta 46)) ++ (q_ta 48)) ++ (q_ta 50)) ++ (q_ta 52)))))) ++ [_]) _
  refine wp_dup d_TC_init_120 rfl ?_
  refine wp_callIN (M' := m_Ta_init) (as := []) (D' := D - 1) (C1 := 1) (C2 := 2) (S1 := 60) (S2 := 27) rfl d_TC_init_121 rfl w_278 w_279 k_Ta_init (Nat.le_of_ble_eq_true rfl) rfl (Nat.le_of_ble_eq_true rfl) (by omega) rfl rfl ?_
  refine c_Ta_init (c := 54) (by omega) rfl ?_
  show px_W _ _ _ _ _ _ _ _ (_ :: ((((((((((q_pl ++ q_mn) ++ (q_si 7)) ++ (q_si 15)) ++ [q_tr2]) ++ (q_si 24)) ++ (q_si 32)) ++ [iA 6 (fun _ => 0)]) ++ [rA "TubeChain$Scaffold" 6 (q_no)]) ++ [.inl (.char, 100, .inl fun _ => 0)]) ++ (rA "TubeChain$Tape" 6 (va_up (va_up (va_up (va_up (va_up (q_no) 0 (some 44)) 1 (some 46)) 2 (some 48)) 3 (some 50)) 4 (some 52)) :: (((((((q_ta 44) ++ (q_ta 46)) ++ (q_ta 48)) ++ (q_ta 50)) ++ (q_ta 52)) ++ (q_ta 54)))))) _
  refine wp_aast (t0 := 6) (ci := 4) (fs := [.ref (54 + 1), .int (-1), .int 0]) d_TC_init_124 (fun _ => rfl) (z1_at (A := (((((((((q_pl ++ q_mn) ++ (q_si 7)) ++ (q_si 15)) ++ [q_tr2]) ++ (q_si 24)) ++ (q_si 32)) ++ [iA 6 (fun _ => 0)]) ++ [rA "TubeChain$Scaffold" 6 (q_no)]) ++ [.inl (.char, 100, .inl fun _ => 0)])) (c := 42) rfl) rfl (show px_sub 4 "TubeChain$Tape" from ⟨_, rfl, Or.inl rfl⟩) (vp_in_nI (n := 5) (N := 6) (by decide) (by decide)) (z1_set (A := (((((((((q_pl ++ q_mn) ++ (q_si 7)) ++ (q_si 15)) ++ [q_tr2]) ++ (q_si 24)) ++ (q_si 32)) ++ [iA 6 (fun _ => 0)]) ++ [rA "TubeChain$Scaffold" 6 (q_no)]) ++ [.inl (.char, 100, .inl fun _ => 0)])) (c := 42) rfl) ?_
  show px_W _ _ _ _ _ _ _ _ (_ :: ((((((((((q_pl ++ q_mn) ++ (q_si 7)) ++ (q_si 15)) ++ [q_tr2]) ++ (q_si 24)) ++ (q_si 32)) ++ [iA 6 (fun _ => 0)]) ++ [rA "TubeChain$Scaffold" 6 (q_no)]) ++ [.inl (.char, 100, .inl fun _ => 0)]) ++ (rA "TubeChain$Tape" 6 (va_up (va_up (va_up (va_up (va_up (va_up (q_no) 0 (some 44)) 1 (some 46)) 2 (some 48)) 3 (some 50)) 4 (some 52)) 5 (some 54)) :: (((((((q_ta 44) ++ (q_ta 46)) ++ (q_ta 48)) ++ (q_ta 50)) ++ (q_ta 52)) ++ (q_ta 54)))))) _
  refine wp_iinc (v := (nI 6)) (ls' := [_, _, _, _]) d_TC_init_125 (by decide) rfl rfl rfl ?_
  refine wp_goto (t := 106) d_TC_init_128 (by decide) ?_
  refine wp_iload_n d_TC_init_106 rfl rfl ?_
  refine wp_bipush (v := 6) d_TC_init_107 (by decide) ?_
  refine wp_icmp_ge (t := 131) d_TC_init_109 (by decide) (fun c_109 => ?_) (fun c_109 => (absurd c_109 (by decide)))
  refine wp_aload_n d_TC_init_131 rfl rfl rfl ?_
  refine wp_bipush (v := 21) d_TC_init_132 (by decide) ?_
  refine wp_newa (t0 := 0) (ty := .int) (n0 := 21) (a0 := (21, .inl fun _ => 0)) (C' := 1) (S' := 6) d_TC_init_134 rfl w_147 (fun _ => rfl) (fun _ h => by cases h) (fun _ => rfl) (by decide) rfl (by show 21 * 4 ≤ 536870912; omega) rfl rfl ?_
  show px_W _ _ _ _ _ _ _ (.ref 56 :: _) (_ :: ((((((((((q_pl ++ q_mn) ++ (q_si 7)) ++ (q_si 15)) ++ [q_tr2]) ++ (q_si 24)) ++ (q_si 32)) ++ [iA 6 (fun _ => 0)]) ++ [rA "TubeChain$Scaffold" 6 (q_no)]) ++ [.inl (.char, 100, .inl fun _ => 0)]) ++ (rA "TubeChain$Tape" 6 (va_up (va_up (va_up (va_up (va_up (va_up (q_no) 0 (some 44)) 1 (some 46)) 2 (some 48)) 3 (some 50)) 4 (some 52)) 5 (some 54)) :: ((((((((q_ta 44) ++ (q_ta 46)) ++ (q_ta 48)) ++ (q_ta 50)) ++ (q_ta 52)) ++ (q_ta 54)) ++ [.inl (.int, 21, .inl fun _ => 0)]))))) _
  refine wp_putF d_TC_init_136 pgf_TC_57_0 rfl z0_at (Nat.le_of_ble_eq_true rfl) rfl rfl z0_set ?_
  refine wp_aload_n d_TC_init_139 rfl rfl rfl ?_
  refine wp_bipush (v := 6) d_TC_init_140 (by decide) ?_
  refine wp_newa (t0 := 0) (ty := .int) (n0 := 6) (a0 := (6, .inl fun _ => 0)) (C' := 0) (S' := 0) d_TC_init_142 rfl w_147 (fun _ => rfl) (fun _ h => by cases h) (fun _ => rfl) (by decide) rfl (by show 6 * 4 ≤ 536870912; omega) rfl rfl ?_
  show px_W _ _ _ _ _ _ _ (.ref 57 :: _) (_ :: ((((((((((q_pl ++ q_mn) ++ (q_si 7)) ++ (q_si 15)) ++ [q_tr2]) ++ (q_si 24)) ++ (q_si 32)) ++ [iA 6 (fun _ => 0)]) ++ [rA "TubeChain$Scaffold" 6 (q_no)]) ++ [.inl (.char, 100, .inl fun _ => 0)]) ++ (rA "TubeChain$Tape" 6 (va_up (va_up (va_up (va_up (va_up (va_up (q_no) 0 (some 44)) 1 (some 46)) 2 (some 48)) 3 (some 50)) 4 (some 52)) 5 (some 54)) :: (((((((((q_ta 44) ++ (q_ta 46)) ++ (q_ta 48)) ++ (q_ta 50)) ++ (q_ta 52)) ++ (q_ta 54)) ++ [.inl (.int, 21, .inl fun _ => 0)]) ++ [.inl (.int, 6, .inl fun _ => 0)]))))) _
  refine wp_putF d_TC_init_144 pgf_TC_61_0 rfl z0_at (Nat.le_of_ble_eq_true rfl) rfl rfl z0_set ?_
  refine wp_return d_TC_init_147 rfl ?_
  exact k
end TCI
