section TCY
variable {G : px_G} {D : Nat} {K : tc_K} {MZ : px_H} {r : tc_r} {s : Nat} {j : Nat → Int32} {b : Nat → Nat → Int32} {w : Nat → Option Nat} {v : Nat} {Q : Option Value → px_H → Prop} {mn : tc_mn} {sc : tc_sc}
set_option maxRecDepth 4000 in
theorem l_Si_placeOf_2 {n p : Nat} {m : Int32} (hs : s < 4) (h8 : j 8 = nI n) (hn6 : n ≤ 6) (hp : p < n) (he : b 4 p = m) (hmin : ∀ q, q < p → b 4 q ≠ m) (k : Q (some (.int (nI p))) (HT (ks K s j b w v) MZ r)) : ∀ (d i : Nat), i + d = p → px_W G D 0 0 m_Si_placeOf 2 [some (.ref (tc_p s)), some (.int m), some (.int (nI i))] [] (HT (ks K s j b w v) MZ r) Q := by
  intro d
  induction d with
  | zero =>
    intro i hid
    have hip : i = p := by omega
    have hbp : b 4 i = m := by rw [hip]; exact he
    refine wp_iload_n d_Si_placeOf_2 rfl rfl ?_
    refine wp_aload_n d_Si_placeOf_3 rfl rfl rfl ?_
    refine gS_8 hs gf_Si_50_1 d_Si_placeOf_4 ?_
    rw [h8]
    refine wp_icmp_ge (t := 28) d_Si_placeOf_7 (by decide) (fun c_7 => absurd c_7 (nI_ge (by omega) (by omega))) (fun c_7 => ?_)
    refine wp_aload_n d_Si_placeOf_10 rfl rfl rfl ?_
    refine gS_4 hs gf_Si_27_1 d_Si_placeOf_11 ?_
    refine wp_iload_n d_Si_placeOf_14 rfl rfl ?_
    refine lS_4 hs d_Si_placeOf_15 (vp_in_nI (by omega) (by decide)) ?_
    rw [nI_clamp (by omega)]
    refine wp_iload_n d_Si_placeOf_16 rfl rfl ?_
    refine wp_icmp_ne (t := 22) d_Si_placeOf_17 (by decide) (fun c_17 => absurd hbp c_17) (fun c_17 => ?_)
    refine wp_iload_n d_Si_placeOf_20 rfl rfl ?_
    refine wp_ireturn d_Si_placeOf_21 rfl rfl ?_
    have e : i = p := by omega
    rw [e]
    exact k
  | succ d ih =>
    intro i hid
    refine wp_iload_n d_Si_placeOf_2 rfl rfl ?_
    refine wp_aload_n d_Si_placeOf_3 rfl rfl rfl ?_
    refine gS_8 hs gf_Si_50_1 d_Si_placeOf_4 ?_
    rw [h8]
    refine wp_icmp_ge (t := 28) d_Si_placeOf_7 (by decide) (fun c_7 => absurd c_7 (nI_ge (by omega) (by omega))) (fun c_7 => ?_)
    refine wp_aload_n d_Si_placeOf_10 rfl rfl rfl ?_
    refine gS_4 hs gf_Si_27_1 d_Si_placeOf_11 ?_
    refine wp_iload_n d_Si_placeOf_14 rfl rfl ?_
    refine lS_4 hs d_Si_placeOf_15 (vp_in_nI (by omega) (by decide)) ?_
    rw [nI_clamp (by omega)]
    refine wp_iload_n d_Si_placeOf_16 rfl rfl ?_
    refine wp_icmp_ne (t := 22) d_Si_placeOf_17 (by decide) (fun c_17 => ?_) (fun c_17 => ?_)
    · skip
      refine wp_iinc (v := _ + 1) (ls' := [_, _, _]) d_Si_placeOf_22 (by decide) rfl rfl rfl ?_
      refine wp_goto (t := 2) d_Si_placeOf_25 (by decide) ?_
      have hi : i ≠ p := fun z => c_17 (by rw [z]; exact he)
      rw [show nI i + 1 = nI (i + 1) from nI_1 i]
      exact ih (i + 1) (by omega)
    · skip
      refine wp_iload_n d_Si_placeOf_20 rfl rfl ?_
      refine wp_ireturn d_Si_placeOf_21 rfl rfl ?_
      have hi : i = p := by
        by_cases hi : i = p
        · exact hi
        · exact absurd c_17 (hmin i (by omega))
      subst hi
      exact k
set_option maxRecDepth 4000 in
theorem c_Si_placeOf {n p : Nat} {m : Int32} (hD : 0 ≤ D) (hs : s < 4) (h8 : j 8 = nI n) (hn6 : n ≤ 6) (hp : p < n) (he : b 4 p = m) (hmin : ∀ q, q < p → b 4 q ≠ m) (k : Q (some (.int (nI p))) (HT (ks K s j b w v) MZ r)) : px_W G D 0 0 m_Si_placeOf 0 (px_ent 3 [.ref (tc_p s), .int m]) [] (HT (ks K s j b w v) MZ r) Q := by
  show px_W _ _ _ _ _ _ [some (.ref (tc_p s)), some (.int m), none] [] _ _
  refine wp_iconst (v := (nI 0)) d_Si_placeOf_0 rfl ?_
  refine wp_istore_n (ls' := [_, _, _]) d_Si_placeOf_1 rfl (by decide) rfl ?_
  exact l_Si_placeOf_2 hs h8 hn6 hp he hmin k p 0 (Nat.zero_add p)
set_option maxRecDepth 4000 in
theorem c_Si_removeAt {n p : Nat} (hD : 1 ≤ D) (hs : s < 4) (h8 : j 8 = nI n) (hn6 : n ≤ 6) (hp : p < n) (k : Q none (HT (ks K s (upd j 8 (nI (n - 1))) (va_up b 4 (va_cpy (b 4) (b 4) (p + 1) p (n - p - 1))) w v) MZ r)) : px_W G D 0 0 m_Si_removeAt 0 (px_ent 2 [.ref (tc_p s), .int (nI p)]) [] (HT (ks K s j b w v) MZ r) Q := by
  show px_W _ _ _ _ _ _ [some (.ref (tc_p s)), some (.int (nI p))] [] _ _
  refine wp_iload_n d_Si_removeAt_0 rfl rfl ?_
  refine wp_if_lt (t := 12) d_Si_removeAt_1 (by decide) (fun c_1 => absurd c_1 (nI_pos (by omega))) (fun c_1 => ?_)
  refine wp_iload_n d_Si_removeAt_4 rfl rfl ?_
  refine wp_aload_n d_Si_removeAt_5 rfl rfl rfl ?_
  refine gS_8 hs gf_Si_50_1 d_Si_removeAt_6 ?_
  rw [h8]
  refine wp_icmp_lt (t := 13) d_Si_removeAt_9 (by decide) (fun c_9 => ?_) (fun c_9 => absurd ((nI_ltI (by omega) (by omega)).mpr hp) c_9)
  refine wp_aload_n d_Si_removeAt_13 rfl rfl rfl ?_
  refine gS_4 hs gf_Si_27_1 d_Si_removeAt_14 ?_
  refine wp_iload_n d_Si_removeAt_17 rfl rfl ?_
  refine wp_iconst (v := 1) d_Si_removeAt_18 rfl ?_
  refine wp_iadd d_Si_removeAt_19 ?_
  rw [show nI p + 1 = nI (p + 1) from nI_1 p]
  refine wp_aload_n d_Si_removeAt_20 rfl rfl rfl ?_
  refine gS_4 hs gf_Si_27_1 d_Si_removeAt_21 ?_
  refine wp_iload_n d_Si_removeAt_24 rfl rfl ?_
  refine wp_aload_n d_Si_removeAt_25 rfl rfl rfl ?_
  refine gS_8 hs gf_Si_50_1 d_Si_removeAt_26 ?_
  refine wp_iload_n d_Si_removeAt_29 rfl rfl ?_
  refine wp_isub d_Si_removeAt_30 ?_
  refine wp_iconst (v := 1) d_Si_removeAt_31 rfl ?_
  refine wp_isub d_Si_removeAt_32 ?_
  rw [h8, show nI n - nI p - 1 = nI (n - p - 1) from by rw [show nI n = nI (n - p - 1 + (p + 1)) from congrArg nI (by omega), ← nI_add, show nI (p + 1) = nI p + 1 from (nI_1 p).symm, Int32.sub_eq_add_neg, Int32.sub_eq_add_neg, Int32.add_assoc, Int32.add_assoc, ← Int32.add_assoc (nI p + 1) (-nI p) (-1), Int32.add_comm (nI p) 1, Int32.add_assoc 1 (nI p) (-nI p), Int32.add_right_neg, Int32.add_zero, Int32.add_right_neg, Int32.add_zero]]
  refine wp_copyi d_Si_removeAt_33 w_400 (ts_a4 hs) (ts_a4 hs) (nI_pos (by omega)) (nI_pos (by omega)) (nI_pos (by omega)) (by rw [nI_clamp (by omega), nI_clamp (by omega)]; omega) (by rw [nI_clamp (by omega), nI_clamp (by omega)]; omega) (by omega) (Nat.le_of_ble_eq_true rfl) (ts_sa4 hs) ?_
  rw [nI_clamp (by omega), nI_clamp (by omega), nI_clamp (by omega)]
  refine wp_aload_n d_Si_removeAt_36 rfl rfl rfl ?_
  refine wp_dup d_Si_removeAt_37 rfl ?_
  refine gS_8 hs gf_Si_50_1 d_Si_removeAt_38 ?_
  refine wp_iconst (v := 1) d_Si_removeAt_41 rfl ?_
  refine wp_isub d_Si_removeAt_42 ?_
  rw [h8, show nI n - 1 = nI (n - 1) from by rw [show nI n = nI (n - 1 + 1) from congrArg nI (by omega)]; exact nI_pred _]
  refine pS_8 hs pgf_Si_50_1 d_Si_removeAt_43 ?_
  refine wp_return d_Si_removeAt_46 rfl ?_
  exact k
set_option maxRecDepth 4000 in
theorem c_Si_insertAt {n p : Nat} {m : Int32} (hD : 1 ≤ D) (hs : s < 4) (h8 : j 8 = nI n) (hn6 : n < 6) (hp : p ≤ n) (k : Q none (HT (ks K s (upd j 8 (nI (n + 1))) (va_up b 4 (upd (va_cpy (b 4) (b 4) p (p + 1) (n - p)) p m)) w v) MZ r)) : px_W G D 0 0 m_Si_insertAt 0 (px_ent 3 [.ref (tc_p s), .int (nI p), .int m]) [] (HT (ks K s j b w v) MZ r) Q := by
  show px_W _ _ _ _ _ _ [some (.ref (tc_p s)), some (.int (nI p)), some (.int m)] [] _ _
  refine wp_iload_n d_Si_insertAt_0 rfl rfl ?_
  refine wp_if_lt (t := 21) d_Si_insertAt_1 (by decide) (fun c_1 => absurd c_1 (nI_pos (by omega))) (fun c_1 => ?_)
  refine wp_iload_n d_Si_insertAt_4 rfl rfl ?_
  refine wp_aload_n d_Si_insertAt_5 rfl rfl rfl ?_
  refine gS_8 hs gf_Si_50_1 d_Si_insertAt_6 ?_
  rw [h8]
  refine wp_icmp_gt (t := 21) d_Si_insertAt_9 (by decide) (fun c_9 => absurd c_9 (Int32.not_lt.mpr (nI_le hp (by omega)))) (fun c_9 => ?_)
  refine wp_aload_n d_Si_insertAt_12 rfl rfl rfl ?_
  refine gS_8 hs gf_Si_50_1 d_Si_insertAt_13 ?_
  refine wp_bipush (v := 6) d_Si_insertAt_16 (by decide) ?_
  rw [h8]
  refine wp_icmp_lt (t := 22) d_Si_insertAt_18 (by decide) (fun c_18 => ?_) (fun c_18 => absurd (show nI n < 6 from (nI_ltI (b := 6) (by omega) (by decide)).mpr hn6) c_18)
  refine wp_aload_n d_Si_insertAt_22 rfl rfl rfl ?_
  refine gS_4 hs gf_Si_27_1 d_Si_insertAt_23 ?_
  refine wp_iload_n d_Si_insertAt_26 rfl rfl ?_
  refine wp_aload_n d_Si_insertAt_27 rfl rfl rfl ?_
  refine gS_4 hs gf_Si_27_1 d_Si_insertAt_28 ?_
  refine wp_iload_n d_Si_insertAt_31 rfl rfl ?_
  refine wp_iconst (v := 1) d_Si_insertAt_32 rfl ?_
  refine wp_iadd d_Si_insertAt_33 ?_
  rw [show nI p + 1 = nI (p + 1) from nI_1 p]
  refine wp_aload_n d_Si_insertAt_34 rfl rfl rfl ?_
  refine gS_8 hs gf_Si_50_1 d_Si_insertAt_35 ?_
  refine wp_iload_n d_Si_insertAt_38 rfl rfl ?_
  refine wp_isub d_Si_insertAt_39 ?_
  rw [h8, show nI n - nI p = nI (n - p) from by rw [show nI n = nI (n - p + p) from congrArg nI (by omega), ← nI_add, Int32.sub_eq_add_neg, Int32.add_assoc, Int32.add_right_neg, Int32.add_zero]]
  refine wp_copyi d_Si_insertAt_40 w_400 (ts_a4 hs) (ts_a4 hs) (nI_pos (by omega)) (nI_pos (by omega)) (nI_pos (by omega)) (by rw [nI_clamp (by omega), nI_clamp (by omega)]; omega) (by rw [nI_clamp (by omega), nI_clamp (by omega)]; omega) (by omega) (Nat.le_of_ble_eq_true rfl) (ts_sa4 hs) ?_
  rw [nI_clamp (by omega), nI_clamp (by omega), nI_clamp (by omega)]
  refine wp_aload_n d_Si_insertAt_43 rfl rfl rfl ?_
  refine gS_4 hs gf_Si_27_1 d_Si_insertAt_44 ?_
  refine wp_iload_n d_Si_insertAt_47 rfl rfl ?_
  refine wp_iload_n d_Si_insertAt_48 rfl rfl ?_
  refine sS_4 hs d_Si_insertAt_49 (vp_in_nI (by omega) (by decide)) ?_
  rw [nI_clamp (by omega), va_tw, show va_up b 4 (va_cpy (b 4) (b 4) p (p + 1) (n - p)) 4 = va_cpy (b 4) (b 4) p (p + 1) (n - p) from if_pos rfl]
  refine wp_aload_n d_Si_insertAt_50 rfl rfl rfl ?_
  refine wp_dup d_Si_insertAt_51 rfl ?_
  refine gS_8 hs gf_Si_50_1 d_Si_insertAt_52 ?_
  refine wp_iconst (v := 1) d_Si_insertAt_55 rfl ?_
  refine wp_iadd d_Si_insertAt_56 ?_
  rw [h8, nI_1]
  refine pS_8 hs pgf_Si_50_1 d_Si_insertAt_57 ?_
  refine wp_return d_Si_insertAt_60 rfl ?_
  exact k
set_option maxRecDepth 4000 in
theorem c_Si_exchange {p q : Nat} (hD : 0 ≤ D) (hs : s < 4) (hp : p < 6) (hq : q < 6) (k : Q none (HT (ks K s j (va_up b 4 (sp_sw (b 4) p q)) w v) MZ r)) : px_W G D 0 0 m_Si_exchange 0 (px_ent 4 [.ref (tc_p s), .int (nI p), .int (nI q)]) [] (HT (ks K s j b w v) MZ r) Q := by
  show px_W _ _ _ _ _ _ [some (.ref (tc_p s)), some (.int (nI p)), some (.int (nI q)), none] [] _ _
  refine wp_aload_n d_Si_exchange_0 rfl rfl rfl ?_
  refine gS_4 hs gf_Si_27_1 d_Si_exchange_1 ?_
  refine wp_iload_n d_Si_exchange_4 rfl rfl ?_
  refine lS_4 hs d_Si_exchange_5 (vp_in_nI (by omega) (by decide)) ?_
  rw [nI_clamp (by omega)]
  refine wp_istore_n (ls' := [_, _, _, _]) d_Si_exchange_6 rfl (by decide) rfl ?_
  refine wp_aload_n d_Si_exchange_7 rfl rfl rfl ?_
  refine gS_4 hs gf_Si_27_1 d_Si_exchange_8 ?_
  refine wp_iload_n d_Si_exchange_11 rfl rfl ?_
  refine wp_aload_n d_Si_exchange_12 rfl rfl rfl ?_
  refine gS_4 hs gf_Si_27_1 d_Si_exchange_13 ?_
  refine wp_iload_n d_Si_exchange_16 rfl rfl ?_
  refine lS_4 hs d_Si_exchange_17 (vp_in_nI (by omega) (by decide)) ?_
  rw [nI_clamp (by omega)]
  refine sS_4 hs d_Si_exchange_18 (vp_in_nI (by omega) (by decide)) ?_
  rw [nI_clamp (by omega)]
  refine wp_aload_n d_Si_exchange_19 rfl rfl rfl ?_
  refine gS_4 hs gf_Si_27_1 d_Si_exchange_20 ?_
  refine wp_iload_n d_Si_exchange_23 rfl rfl ?_
  refine wp_iload_n d_Si_exchange_24 rfl rfl ?_
  refine sS_4 hs d_Si_exchange_25 (vp_in_nI (by omega) (by decide)) ?_
  refine wp_return d_Si_exchange_26 rfl ?_
  rw [nI_clamp (by omega), va_tw]
  have e : upd (va_up b 4 (upd (b 4) p (b 4 q)) 4) q (b 4 p) = sp_sw (b 4) p q := rfl
  rw [e]
  exact k
def sp_cnt (f : Nat → Int32) (n : Nat) : Nat → Int32 := fun q => if q < n then nI q else f q
theorem sp_cnt_s (f : Nat → Int32) (i : Nat) : upd (sp_cnt f i) i (nI i) = sp_cnt f (i + 1) := by
  funext q
  show (if q = i then nI i else if q < i then nI q else f q) = if q < i + 1 then nI q else f q
  by_cases h : q = i
  · rw [if_pos h, if_pos (by omega), h]
  · rw [if_neg h]
    by_cases h2 : q < i
    · rw [if_pos h2, if_pos (by omega)]
    · rw [if_neg h2, if_neg (by omega)]
def sp_cap (f : Nat → Int32) (n : Nat) : Nat → Int32 := fun q => if q < n then (if 9999 < f q then 9999 else f q) else f q
theorem sp_cap_s (f : Nat → Int32) (i : Nat) : upd (sp_cap f i) i (if 9999 < f i then 9999 else f i) = sp_cap f (i + 1) := by
  funext q
  show (if q = i then _ else if q < i then (if 9999 < f q then 9999 else f q) else f q) = if q < i + 1 then (if 9999 < f q then 9999 else f q) else f q
  by_cases h : q = i
  · rw [if_pos h, if_pos (show q < i + 1 by omega), h]
  · rw [if_neg h]
    by_cases h2 : q < i
    · rw [if_pos h2, if_pos (show q < i + 1 by omega)]
    · rw [if_neg h2, if_neg (show ¬ q < i + 1 by omega)]
theorem sp_cap_i (f : Nat → Int32) (i : Nat) : sp_cap f i i = f i := if_neg (Nat.lt_irrefl i)
theorem sp_cnt_0 (f : Nat → Int32) : sp_cnt f 0 = f := by
  funext q
  exact if_neg (by omega)
theorem sp_cap_0 (f : Nat → Int32) : sp_cap f 0 = f := by
  funext q
  exact if_neg (by omega)
set_option maxRecDepth 4000 in
theorem l_Si_lineUpByNumber_2 {n : Nat} (hs : s < 4) (h8 : j 8 = nI n) (hn6 : n ≤ 6) (k : Q none (HT (ks K s j (va_up b 4 (sp_cnt (b 4) n)) w v) MZ r)) : ∀ (d i : Nat), i + d = n → px_W G D 0 0 m_Si_lineUpByNumber 2 [some (.ref (tc_p s)), some (.int (nI i))] [] (HT (ks K s j (va_up b 4 (sp_cnt (b 4) i)) w v) MZ r) Q := by
  intro d
  induction d with
  | zero =>
    intro i hid
    refine wp_iload_n d_Si_lineUpByNumber_2 rfl rfl ?_
    refine wp_aload_n d_Si_lineUpByNumber_3 rfl rfl rfl ?_
    refine gS_8 hs gf_Si_50_1 d_Si_lineUpByNumber_4 ?_
    rw [h8]
    refine wp_icmp_ge (t := 23) d_Si_lineUpByNumber_7 (by decide) (fun c_7 => ?_) (fun c_7 => absurd (nI_le (by omega) (by omega)) c_7)
    refine wp_return d_Si_lineUpByNumber_23 rfl ?_
    rw [show i = n from by omega]
    exact k
  | succ d ih =>
    intro i hid
    refine wp_iload_n d_Si_lineUpByNumber_2 rfl rfl ?_
    refine wp_aload_n d_Si_lineUpByNumber_3 rfl rfl rfl ?_
    refine gS_8 hs gf_Si_50_1 d_Si_lineUpByNumber_4 ?_
    rw [h8]
    refine wp_icmp_ge (t := 23) d_Si_lineUpByNumber_7 (by decide) (fun c_7 => absurd c_7 (nI_ge (by omega) (by omega))) (fun c_7 => ?_)
    refine wp_aload_n d_Si_lineUpByNumber_10 rfl rfl rfl ?_
    refine gS_4 hs gf_Si_27_1 d_Si_lineUpByNumber_11 ?_
    refine wp_iload_n d_Si_lineUpByNumber_14 rfl rfl ?_
    refine wp_iload_n d_Si_lineUpByNumber_15 rfl rfl ?_
    refine sS_4 hs d_Si_lineUpByNumber_16 (vp_in_nI (by omega) (by decide)) ?_
    refine wp_iinc (v := _ + 1) (ls' := [_, _]) d_Si_lineUpByNumber_17 (by decide) rfl rfl rfl ?_
    refine wp_goto (t := 2) d_Si_lineUpByNumber_20 (by decide) ?_
    rw [nI_clamp (by omega), va_tw, show nI i + 1 = nI (i + 1) from nI_1 i, show va_up b 4 (sp_cnt (b 4) i) 4 = sp_cnt (b 4) i from if_pos rfl, sp_cnt_s]
    exact ih (i + 1) (by omega)
set_option maxRecDepth 4000 in
theorem c_Si_lineUpByNumber {n : Nat} (hD : 0 ≤ D) (hs : s < 4) (h8 : j 8 = nI n) (hn6 : n ≤ 6) (k : Q none (HT (ks K s j (va_up b 4 (sp_cnt (b 4) n)) w v) MZ r)) : px_W G D 0 0 m_Si_lineUpByNumber 0 (px_ent 2 [.ref (tc_p s)]) [] (HT (ks K s j b w v) MZ r) Q := by
  show px_W _ _ _ _ _ _ [some (.ref (tc_p s)), none] [] _ _
  refine wp_iconst (v := (nI 0)) d_Si_lineUpByNumber_0 rfl ?_
  refine wp_istore_n (ls' := [_, _]) d_Si_lineUpByNumber_1 rfl (by decide) rfl ?_
  have q := l_Si_lineUpByNumber_2 (G := G) (D := D) hs h8 hn6 k n 0 (Nat.zero_add n)
  rw [sp_cnt_0, va_id] at q
  exact q
set_option maxRecDepth 4000 in
theorem l_Si_capHeld_2 (hD : 1 ≤ D) (hs : s < 4) (k : Q none (HT (ks K s j (va_up b 1 (sp_cap (b 1) 6)) w v) MZ r)) : ∀ (d i : Nat), i + d = 6 → px_W G D 0 0 m_Si_capHeld 2 [some (.ref (tc_p s)), some (.int (nI i))] [] (HT (ks K s j (va_up b 1 (sp_cap (b 1) i)) w v) MZ r) Q := by
  intro d
  induction d with
  | zero =>
    intro i hid
    refine wp_iload_n d_Si_capHeld_2 rfl rfl ?_
    refine wp_bipush (v := (nI 6)) d_Si_capHeld_3 (by decide) ?_
    refine wp_icmp_ge (t := 32) d_Si_capHeld_5 (by decide) (fun c_5 => ?_) (fun c_5 => absurd (nI_le (by omega) (by omega)) c_5)
    refine wp_return d_Si_capHeld_32 rfl ?_
    rw [show i = 6 from by omega]
    exact k
  | succ d ih =>
    intro i hid
    refine wp_iload_n d_Si_capHeld_2 rfl rfl ?_
    refine wp_bipush (v := (nI 6)) d_Si_capHeld_3 (by decide) ?_
    refine wp_icmp_ge (t := 32) d_Si_capHeld_5 (by decide) (fun c_5 => absurd c_5 (nI_ge (show i < 6 by omega) (by decide))) (fun c_5 => ?_)
    refine wp_aload_n d_Si_capHeld_8 rfl rfl rfl ?_
    refine gS_1 hs gf_Si_17_1 d_Si_capHeld_9 ?_
    refine wp_iload_n d_Si_capHeld_12 rfl rfl ?_
    refine wp_aload_n d_Si_capHeld_13 rfl rfl rfl ?_
    refine gS_1 hs gf_Si_17_1 d_Si_capHeld_14 ?_
    refine wp_iload_n d_Si_capHeld_17 rfl rfl ?_
    refine lS_1 hs d_Si_capHeld_18 (vp_in_nI (by omega) (by decide)) ?_
    rw [nI_clamp (by omega), show va_up b 1 (sp_cap (b 1) i) 1 = sp_cap (b 1) i from if_pos rfl, sp_cap_i]
    refine wp_sipush (v := 9999) d_Si_capHeld_19 (by decide) ?_
    refine wp_min d_Si_capHeld_22 w_695 (Nat.le_of_ble_eq_true rfl) (by omega) ?_
    refine sS_1 hs d_Si_capHeld_25 (vp_in_nI (by omega) (by decide)) ?_
    refine wp_iinc (v := _ + 1) (ls' := [_, _]) d_Si_capHeld_26 (by decide) rfl rfl rfl ?_
    refine wp_goto (t := 2) d_Si_capHeld_29 (by decide) ?_
    rw [nI_clamp (by omega), va_tw, show nI i + 1 = nI (i + 1) from nI_1 i, show va_up b 1 (sp_cap (b 1) i) 1 = sp_cap (b 1) i from if_pos rfl, sp_cap_s]
    exact ih (i + 1) (by omega)
set_option maxRecDepth 4000 in
theorem c_Si_capHeld  (hD : 1 ≤ D) (hs : s < 4) (k : Q none (HT (ks K s j (va_up b 1 (sp_cap (b 1) 6)) w v) MZ r)) : px_W G D 0 0 m_Si_capHeld 0 (px_ent 2 [.ref (tc_p s)]) [] (HT (ks K s j b w v) MZ r) Q := by
  show px_W _ _ _ _ _ _ [some (.ref (tc_p s)), none] [] _ _
  refine wp_iconst (v := (nI 0)) d_Si_capHeld_0 rfl ?_
  refine wp_istore_n (ls' := [_, _]) d_Si_capHeld_1 rfl (by decide) rfl ?_
  have q := l_Si_capHeld_2 (G := G) hD hs k 6 0 (Nat.zero_add 6)
  rw [sp_cap_0, va_id] at q
  exact q
set_option maxRecDepth 4000 in
theorem l_Si_seenAsBits_4 {n : Nat} (hs : s < 4) (h12 : j 12 = nI n) (hn6 : n ≤ 6) : ∀ (d i : Nat) (z : Int32), i + d = n → Q (some (.int (sp_dn (b 5) d i z))) (HT (ks K s j b w v) MZ r) → px_W G D 0 0 m_Si_seenAsBits 4 [some (.ref (tc_p s)), some (.int z), some (.int (nI i))] [] (HT (ks K s j b w v) MZ r) Q := by
  intro d
  induction d with
  | zero =>
    intro i z hid k
    refine wp_iload_n d_Si_seenAsBits_4 rfl rfl ?_
    refine wp_aload_n d_Si_seenAsBits_5 rfl rfl rfl ?_
    refine gS_12 hs gf_Si_62_1 d_Si_seenAsBits_6 ?_
    rw [h12]
    refine wp_icmp_ge (t := 29) d_Si_seenAsBits_9 (by decide) (fun c_9 => ?_) (fun c_9 => absurd (nI_le (by omega) (by omega)) c_9)
    refine wp_iload_n d_Si_seenAsBits_29 rfl rfl ?_
    refine wp_ireturn d_Si_seenAsBits_30 rfl rfl ?_
    exact k
  | succ d ih =>
    intro i z hid k
    refine wp_iload_n d_Si_seenAsBits_4 rfl rfl ?_
    refine wp_aload_n d_Si_seenAsBits_5 rfl rfl rfl ?_
    refine gS_12 hs gf_Si_62_1 d_Si_seenAsBits_6 ?_
    rw [h12]
    refine wp_icmp_ge (t := 29) d_Si_seenAsBits_9 (by decide) (fun c_9 => absurd c_9 (nI_ge (by omega) (by omega))) (fun c_9 => ?_)
    refine wp_iload_n d_Si_seenAsBits_12 rfl rfl ?_
    refine wp_iconst (v := 1) d_Si_seenAsBits_13 rfl ?_
    refine wp_aload_n d_Si_seenAsBits_14 rfl rfl rfl ?_
    refine gS_5 hs gf_Si_30_1 d_Si_seenAsBits_15 ?_
    refine wp_iload_n d_Si_seenAsBits_18 rfl rfl ?_
    refine lS_5 hs d_Si_seenAsBits_19 (vp_in_nI (by omega) (by decide)) ?_
    rw [nI_clamp (by omega)]
    refine wp_ishl d_Si_seenAsBits_20 ?_
    refine wp_ior d_Si_seenAsBits_21 ?_
    refine wp_istore_n (ls' := [_, _, _]) d_Si_seenAsBits_22 rfl (by decide) rfl ?_
    refine wp_iinc (v := _ + 1) (ls' := [_, _, _]) d_Si_seenAsBits_23 (by decide) rfl rfl rfl ?_
    refine wp_goto (t := 4) d_Si_seenAsBits_26 (by decide) ?_
    rw [show nI i + 1 = nI (i + 1) from nI_1 i]
    exact ih (i + 1) _ (by omega) k
set_option maxRecDepth 4000 in
theorem c_Si_seenAsBits {n : Nat} (hD : 0 ≤ D) (hs : s < 4) (h12 : j 12 = nI n) (hn6 : n ≤ 6) (k : Q (some (.int (sp_dn (b 5) n 0 0))) (HT (ks K s j b w v) MZ r)) : px_W G D 0 0 m_Si_seenAsBits 0 (px_ent 3 [.ref (tc_p s)]) [] (HT (ks K s j b w v) MZ r) Q := by
  show px_W _ _ _ _ _ _ [some (.ref (tc_p s)), none, none] [] _ _
  refine wp_iconst (v := 0) d_Si_seenAsBits_0 rfl ?_
  refine wp_istore_n (ls' := [_, _, _]) d_Si_seenAsBits_1 rfl (by decide) rfl ?_
  refine wp_iconst (v := (nI 0)) d_Si_seenAsBits_2 rfl ?_
  refine wp_istore_n (ls' := [_, _, _]) d_Si_seenAsBits_3 rfl (by decide) rfl ?_
  exact l_Si_seenAsBits_4 hs h12 hn6 n 0 0 (Nat.zero_add n) k
end TCY
