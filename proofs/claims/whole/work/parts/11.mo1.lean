section MO1
variable {G : px_G} {D : Nat} {X E : px_H} {I : Nat → Int32} {A : Nat → Nat → Int32} {L : Nat → Nat → Int64} {Q : Option Value → px_H → Prop}
set_option maxRecDepth 4000 in
theorem c_Mo_in {v lo hi : Int32} (hD : 0 ≤ D) (kt : lo ≤ v ∧ v ≤ hi → Q (some (.int 1)) (HM X I A L E)) (kf : ¬ (lo ≤ v ∧ v ≤ hi) → Q (some (.int 0)) (HM X I A L E)) : px_W G D 0 0 m_Mo_in 0 (px_ent 4 [.ref X.length, .int v, .int lo, .int hi]) [] (HM X I A L E) Q := by
  show px_W _ _ _ _ _ _ [some (.ref X.length), some (.int v), some (.int lo), some (.int hi)] [] _ _
  refine wp_iload_n d_Mo_in_0 rfl rfl ?_
  refine wp_iload_n d_Mo_in_1 rfl rfl ?_
  refine wp_icmp_lt (t := 14) d_Mo_in_2 (by decide) (fun c_2 => ?_) (fun c_2 => ?_)
  · skip
    refine wp_iconst (v := 0) d_Mo_in_14 rfl ?_
    refine wp_ireturn d_Mo_in_15 rfl rfl ?_
    first | exact kf (fun q => absurd c_2 (Int32.not_lt.mpr q.1)) | exact kf (fun q => absurd c_7 (Int32.not_lt.mpr q.2))
  · skip
    refine wp_iload_n d_Mo_in_5 rfl rfl ?_
    refine wp_iload_n d_Mo_in_6 rfl rfl ?_
    refine wp_icmp_gt (t := 14) d_Mo_in_7 (by decide) (fun c_7 => ?_) (fun c_7 => ?_)
    · skip
      refine wp_iconst (v := 0) d_Mo_in_14 rfl ?_
      refine wp_ireturn d_Mo_in_15 rfl rfl ?_
      first | exact kf (fun q => absurd c_2 (Int32.not_lt.mpr q.1)) | exact kf (fun q => absurd c_7 (Int32.not_lt.mpr q.2))
    · skip
      refine wp_iconst (v := 1) d_Mo_in_10 rfl ?_
      refine wp_goto (t := 15) d_Mo_in_11 (by decide) ?_
      refine wp_ireturn d_Mo_in_15 rfl rfl ?_
      exact kt ⟨Int32.not_lt.mp c_2, Int32.not_lt.mp c_7⟩
set_option maxRecDepth 4000 in
theorem c_Mo_has {v i : Int32} (hD : 0 ≤ D) (kt : (v >>> (i &&& 31)) &&& 1 = 1 → Q (some (.int 1)) (HM X I A L E)) (kf : ¬ ((v >>> (i &&& 31)) &&& 1 = 1) → Q (some (.int 0)) (HM X I A L E)) : px_W G D 0 0 m_Mo_has 0 (px_ent 3 [.ref X.length, .int v, .int i]) [] (HM X I A L E) Q := by
  show px_W _ _ _ _ _ _ [some (.ref X.length), some (.int v), some (.int i)] [] _ _
  refine wp_iload_n d_Mo_has_0 rfl rfl ?_
  refine wp_iload_n d_Mo_has_1 rfl rfl ?_
  refine wp_ishr d_Mo_has_2 ?_
  refine wp_iconst (v := 1) d_Mo_has_3 rfl ?_
  refine wp_iand d_Mo_has_4 ?_
  refine wp_iconst (v := 1) d_Mo_has_5 rfl ?_
  refine wp_icmp_ne (t := 13) d_Mo_has_6 (by decide) (fun c_6 => ?_) (fun c_6 => ?_)
  · skip
    refine wp_iconst (v := 0) d_Mo_has_13 rfl ?_
    refine wp_ireturn d_Mo_has_14 rfl rfl ?_
    exact kf c_6
  · skip
    refine wp_iconst (v := 1) d_Mo_has_9 rfl ?_
    refine wp_goto (t := 14) d_Mo_has_10 (by decide) ?_
    refine wp_ireturn d_Mo_has_14 rfl rfl ?_
    exact kt c_6
set_option maxRecDepth 4000 in
theorem c_Mo_atLeastOne {n : Int32} (hD : 0 ≤ D) (k : Q (some (.int (if n < 1 then 1 else n))) (HM X I A L E)) : px_W G D 0 0 m_Mo_atLeastOne 0 (px_ent 2 [.ref X.length, .int n]) [] (HM X I A L E) Q := by
  show px_W _ _ _ _ _ _ [some (.ref X.length), some (.int n)] [] _ _
  refine wp_iload_n d_Mo_atLeastOne_0 rfl rfl ?_
  refine wp_iconst (v := 1) d_Mo_atLeastOne_1 rfl ?_
  refine wp_icmp_ge (t := 9) d_Mo_atLeastOne_2 (by decide) (fun c_2 => ?_) (fun c_2 => ?_)
  · skip
    refine wp_iload_n d_Mo_atLeastOne_9 rfl rfl ?_
    refine wp_ireturn d_Mo_atLeastOne_10 rfl rfl ?_
    rw [if_neg (Int32.not_lt.mpr c_2)] at k
    exact k
  · skip
    refine wp_iconst (v := 1) d_Mo_atLeastOne_5 rfl ?_
    refine wp_goto (t := 10) d_Mo_atLeastOne_6 (by decide) ?_
    refine wp_ireturn d_Mo_atLeastOne_10 rfl rfl ?_
    rw [if_pos (Int32.not_le.mp c_2)] at k
    exact k
set_option maxRecDepth 4000 in
theorem c_Mo_isMan {m : Int32} (hD : 1 ≤ D) (kt : 0 ≤ m ∧ m ≤ I 0 - 1 → Q (some (.int 1)) (HM X I A L E)) (kf : ¬ (0 ≤ m ∧ m ≤ I 0 - 1) → Q (some (.int 0)) (HM X I A L E)) : px_W G D 0 0 m_Mo_isMan 0 (px_ent 2 [.ref X.length, .int m]) [] (HM X I A L E) Q := by
  show px_W _ _ _ _ _ _ [some (.ref X.length), some (.int m)] [] _ _
  refine wp_aload_n d_Mo_isMan_0 rfl rfl rfl ?_
  refine wp_iload_n d_Mo_isMan_1 rfl rfl ?_
  refine wp_iconst (v := 0) d_Mo_isMan_2 rfl ?_
  refine wp_aload_n d_Mo_isMan_3 rfl rfl rfl ?_
  refine gM_0 rfl d_Mo_isMan_4 ?_
  refine wp_iconst (v := 1) d_Mo_isMan_7 rfl ?_
  refine wp_isub d_Mo_isMan_8 ?_
  refine wp_callV (r := (R_12, T_12, 70)) (M' := m_Mo_in) (as := [_, _, _]) (D' := D - 1) (C1 := 0) (C2 := 0) (S1 := 0) (S2 := 0) d_Mo_isMan_9 rfl w_1209 w_1211 w_15 hm_0 k_Mo_in (Nat.le_of_ble_eq_true rfl) rfl (Nat.le_of_ble_eq_true rfl) (by omega) rfl rfl ?_
  refine c_Mo_in (by omega)  (fun c_9 => ?_) (fun c_9 => ?_)
  · skip
    refine wp_ireturn d_Mo_isMan_12 rfl rfl ?_
    exact kt c_9
  · skip
    refine wp_ireturn d_Mo_isMan_12 rfl rfl ?_
    exact kf c_9
set_option maxRecDepth 4000 in
theorem c_Mo_isBeat {b : Int32} (hD : 1 ≤ D) (kt : 1 ≤ b ∧ b ≤ 99 → Q (some (.int 1)) (HM X I A L E)) (kf : ¬ (1 ≤ b ∧ b ≤ 99) → Q (some (.int 0)) (HM X I A L E)) : px_W G D 0 0 m_Mo_isBeat 0 (px_ent 2 [.ref X.length, .int b]) [] (HM X I A L E) Q := by
  show px_W _ _ _ _ _ _ [some (.ref X.length), some (.int b)] [] _ _
  refine wp_aload_n d_Mo_isBeat_0 rfl rfl rfl ?_
  refine wp_iload_n d_Mo_isBeat_1 rfl rfl ?_
  refine wp_iconst (v := 1) d_Mo_isBeat_2 rfl ?_
  refine wp_bipush (v := 99) d_Mo_isBeat_3 (by decide) ?_
  refine wp_callV (r := (R_12, T_12, 70)) (M' := m_Mo_in) (as := [_, _, _]) (D' := D - 1) (C1 := 0) (C2 := 0) (S1 := 0) (S2 := 0) d_Mo_isBeat_5 rfl w_1209 w_1211 w_15 hm_0 k_Mo_in (Nat.le_of_ble_eq_true rfl) rfl (Nat.le_of_ble_eq_true rfl) (by omega) rfl rfl ?_
  refine c_Mo_in (by omega)  (fun c_5 => ?_) (fun c_5 => ?_)
  · skip
    refine wp_ireturn d_Mo_isBeat_8 rfl rfl ?_
    exact kt c_5
  · skip
    refine wp_ireturn d_Mo_isBeat_8 rfl rfl ?_
    exact kf c_5
end MO1
