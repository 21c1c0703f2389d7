/-- the first place of v in a row, from k on, q to look at -/
def ixo (f : Nat → Int32) (v : Int32) : Nat → Nat → Int32
  | 0, _ => -1
  | q + 1, k => if f k = v then nI k else ixo f v q (k + 1)
def sbt (i j : Nat) : Int32 := (px_byt.getD i []).getD j 0
theorem slen : ∀ i, i < 3 → px_len.getD i 0 ≤ 25 := by decide
theorem sbt_b : ∀ i, i < 3 → ∀ j, j < px_len.getD i 0 → ∃ b, b < 128 ∧ sbt i j = nI b := by
  have h : ∀ i, i < 3 → ∀ j, j < px_len.getD i 0 → (sbt i j).toNatClampNeg < 128 ∧ sbt i j = nI (sbt i j).toNatClampNeg := by decide +kernel
  exact fun i hi j hj => ⟨_, h i hi j hj⟩
theorem chr_i : ∀ b, b < 128 → ((nI b &&& 255).toUInt32 % 65536).toInt32 = nI b := by decide +kernel
theorem byt_i : ∀ b, b < 128 → (nI b).toInt8.toInt32 = nI b := by decide +kernel
section TS
variable {G : px_G} {D : Nat} {h : px_H} {Q : Option Value → px_H → Prop} {i : Nat}
set_option maxRecDepth 4000 in
theorem c_Sg_coder  (hD : 0 ≤ D) (hi : i < 3) (k : Q (some (.int 0)) h) : px_W G D 0 0 m_Sg_coder 0 (px_ent 1 [.retAddr (3 + i)]) [] h Q := by
  show px_W _ _ _ _ _ _ [some (.retAddr (3 + i))] [] _ _
  refine wp_getCOMPACT d_Sg_coder_0 w_535 ?_
  refine wp_if_eq (t := 13) d_Sg_coder_3 (by decide) (fun c_3 => (absurd c_3 (by decide))) (fun c_3 => ?_)
  refine wp_aload_n d_Sg_coder_6 rfl rfl rfl ?_
  refine wp_strcoder hi d_Sg_coder_7 w_1598 ?_
  refine wp_goto (t := 14) d_Sg_coder_10 (by decide) ?_
  refine wp_ireturn d_Sg_coder_14 rfl rfl ?_
  exact k
set_option maxRecDepth 4000 in
theorem c_Sg_isLatin1  (hD : 0 ≤ D) (hi : i < 3) (k : Q (some (.int 1)) h) : px_W G D 0 0 m_Sg_isLatin1 0 (px_ent 1 [.retAddr (3 + i)]) [] h Q := by
  show px_W _ _ _ _ _ _ [some (.retAddr (3 + i))] [] _ _
  refine wp_getCOMPACT d_Sg_isLatin1_0 w_535 ?_
  refine wp_if_eq (t := 17) d_Sg_isLatin1_3 (by decide) (fun c_3 => (absurd c_3 (by decide))) (fun c_3 => ?_)
  refine wp_aload_n d_Sg_isLatin1_6 rfl rfl rfl ?_
  refine wp_strcoder hi d_Sg_isLatin1_7 w_1598 ?_
  refine wp_if_ne (t := 17) d_Sg_isLatin1_10 (by decide) (fun c_10 => (absurd c_10 (by decide))) (fun c_10 => ?_)
  refine wp_iconst (v := 1) d_Sg_isLatin1_13 rfl ?_
  refine wp_goto (t := 18) d_Sg_isLatin1_14 (by decide) ?_
  refine wp_ireturn d_Sg_isLatin1_18 rfl rfl ?_
  exact k
theorem shr0 : ∀ i, i < 3 → nI (px_len.getD i 0) >>> ((0 : Int32) &&& 31) = nI (px_len.getD i 0) := by decide
set_option maxRecDepth 4000 in
theorem c_Sg_length  (hD : 1 ≤ D) (hi : i < 3) (k : Q (some (.int (nI (px_len.getD i 0)))) h) : px_W G D 0 0 m_Sg_length 0 (px_ent 1 [.retAddr (3 + i)]) [] h Q := by
  show px_W _ _ _ _ _ _ [some (.retAddr (3 + i))] [] _ _
  refine wp_aload_n d_Sg_length_0 rfl rfl rfl ?_
  refine wp_strvalue hi d_Sg_length_1 w_1597 ?_
  refine wp_strlen hi d_Sg_length_4 (show Int32.ofNat (px_len.getD i 0) = nI (px_len.getD i 0) from rfl) ?_
  refine wp_aload_n d_Sg_length_5 rfl rfl rfl ?_
  refine wp_callSTR (i := i) (M' := m_Sg_coder) (as := []) (D' := D - 1) (C1 := 0) (C2 := 0) (S1 := 0) (S2 := 0) hi d_Sg_length_6 w_531 w_532 w_533 k_Sg_coder (Nat.le_of_ble_eq_true rfl) rfl (Nat.le_of_ble_eq_true rfl) (by omega) rfl rfl ?_
  refine c_Sg_coder (by omega) hi ?_
  refine wp_ishr d_Sg_length_9 ?_
  refine wp_ireturn d_Sg_length_10 rfl rfl ?_
  rw [show nI (px_len.getD i 0) >>> ((0 : Int32) &&& 31) = nI (px_len.getD i 0) from shr0 _ hi]
  exact k
set_option maxRecDepth 4000 in
theorem c_Pr_checkIndex {j n : Nat} {f : Value} (hD : 0 ≤ D) (hj : j < n) (hn : n < 2 ^ 31) (k : Q (some (.int (nI j))) h) : px_W G D 0 0 m_Pr_checkIndex 0 (px_ent 3 [.int (nI j), .int (nI n), .retAddr 2]) [] h Q := by
  show px_W _ _ _ _ _ _ [some (.int (nI j)), some (.int (nI n)), some (.retAddr 2)] [] _ _
  refine wp_iload_n d_Pr_checkIndex_0 rfl rfl ?_
  refine wp_if_lt (t := 9) d_Pr_checkIndex_1 (by decide) (fun c_1 => absurd c_1 (nI_pos (by omega))) (fun c_1 => ?_)
  refine wp_iload_n d_Pr_checkIndex_4 rfl rfl ?_
  refine wp_iload_n d_Pr_checkIndex_5 rfl rfl ?_
  refine wp_icmp_lt (t := 16) d_Pr_checkIndex_6 (by decide) (fun c_6 => ?_) (fun c_6 => absurd (nI_lt hj hn) c_6)
  refine wp_iload_n d_Pr_checkIndex_16 rfl rfl ?_
  refine wp_ireturn d_Pr_checkIndex_17 rfl rfl ?_
  exact k
set_option maxRecDepth 4000 in
theorem c_Sg_checkIndex {j n : Nat} (hD : 1 ≤ D) (hj : j < n) (hn : n < 2 ^ 31) (k : Q none h) : px_W G D 0 0 m_Sg_checkIndex 0 (px_ent 2 [.int (nI j), .int (nI n)]) [] h Q := by
  show px_W _ _ _ _ _ _ [some (.int (nI j)), some (.int (nI n))] [] _ _
  refine wp_iload_n d_Sg_checkIndex_0 rfl rfl ?_
  refine wp_iload_n d_Sg_checkIndex_1 rfl rfl ?_
  refine wp_getFMT d_Sg_checkIndex_2 w_551 ?_
  refine wp_callS (M' := m_Pr_checkIndex) (as := [_, _, _]) (D' := D - 1) (C1 := 0) (C2 := 0) (S1 := 0) (S2 := 0) d_Sg_checkIndex_5 w_553 w_554 k_Pr_checkIndex (Nat.le_of_ble_eq_true rfl) rfl (Nat.le_of_ble_eq_true rfl) (by omega) rfl rfl ?_
  refine c_Pr_checkIndex (by omega) (f := .null) hj hn ?_
  refine wp_pop d_Sg_checkIndex_8 rfl ?_
  refine wp_return d_Sg_checkIndex_9 rfl ?_
  exact k
theorem ch_fit : ∀ b, b < 128 → narrow .char (.int (nI b)) = .int (nI b) := by decide +kernel
set_option maxRecDepth 4000 in
theorem c_SL_charAt {j : Nat} (hD : 2 ≤ D) (hi : i < 3) (hj : j < px_len.getD i 0) (k : Q (some (.int (sbt i j))) h) : px_W G D 0 0 m_SL_charAt 0 (px_ent 2 [.retAddr (6 + i), .int (nI j)]) [] h Q := by
  have hl25 := slen i hi
  obtain ⟨b, hb, eb⟩ := sbt_b i hi j hj
  show px_W _ _ _ _ _ _ [some (.retAddr (6 + i)), some (.int (nI j))] [] _ _
  refine wp_iload_n d_SL_charAt_0 rfl rfl ?_
  refine wp_aload_n d_SL_charAt_1 rfl rfl rfl ?_
  refine wp_strlen hi d_SL_charAt_2 (show Int32.ofNat (px_len.getD i 0) = nI (px_len.getD i 0) from rfl) ?_
  refine wp_callS (M' := m_Sg_checkIndex) (as := [_, _]) (D' := D - 1) (C1 := 0) (C2 := 0) (S1 := 0) (S2 := 0) d_SL_charAt_3 w_548 w_549 k_Sg_checkIndex (Nat.le_of_ble_eq_true rfl) rfl (Nat.le_of_ble_eq_true rfl) (by omega) rfl rfl ?_
  refine c_Sg_checkIndex (by omega) hj (by omega) ?_
  refine wp_aload_n d_SL_charAt_6 rfl rfl rfl ?_
  refine wp_iload_n d_SL_charAt_7 rfl rfl ?_
  refine wp_strb hi d_SL_charAt_8 (vp_in_nI (by omega) (by omega)) ?_
  rw [nI_clamp (by omega), show (px_byt.getD i []).getD j 0 = nI b from eb]
  refine wp_sipush (v := 255) d_SL_charAt_9 (by decide) ?_
  refine wp_iand d_SL_charAt_12 ?_
  refine wp_i2c d_SL_charAt_13 ?_
  rw [chr_i b hb]
  refine wp_ireturn d_SL_charAt_14 rfl (ch_fit b hb) ?_
  rw [← eb]
  exact k
set_option maxRecDepth 4000 in
theorem c_Sg_charAt {j : Nat} (hD : 3 ≤ D) (hi : i < 3) (hj : j < px_len.getD i 0) (k : Q (some (.int (sbt i j))) h) : px_W G D 0 0 m_Sg_charAt 0 (px_ent 2 [.retAddr (3 + i), .int (nI j)]) [] h Q := by
  have hl25 := slen i hi
  obtain ⟨b, hb, eb⟩ := sbt_b i hi j hj
  show px_W _ _ _ _ _ _ [some (.retAddr (3 + i)), some (.int (nI j))] [] _ _
  refine wp_aload_n d_Sg_charAt_0 rfl rfl rfl ?_
  refine wp_callSTR (i := i) (M' := m_Sg_isLatin1) (as := []) (D' := D - 1) (C1 := 0) (C2 := 0) (S1 := 0) (S2 := 0) hi d_Sg_charAt_1 w_541 w_542 w_543 k_Sg_isLatin1 (Nat.le_of_ble_eq_true rfl) rfl (Nat.le_of_ble_eq_true rfl) (by omega) rfl rfl ?_
  refine c_Sg_isLatin1 (by omega) hi ?_
  refine wp_if_eq (t := 16) d_Sg_charAt_4 (by decide) (fun c_4 => (absurd c_4 (by decide))) (fun c_4 => ?_)
  refine wp_aload_n d_Sg_charAt_7 rfl rfl rfl ?_
  refine wp_strvalue hi d_Sg_charAt_8 w_1597 ?_
  refine wp_iload_n d_Sg_charAt_11 rfl rfl ?_
  refine wp_callS (M' := m_SL_charAt) (as := [_, _]) (D' := D - 1) (C1 := 0) (C2 := 0) (S1 := 0) (S2 := 0) d_Sg_charAt_12 w_545 w_546 k_SL_charAt (Nat.le_of_ble_eq_true rfl) rfl (Nat.le_of_ble_eq_true rfl) (by omega) rfl rfl ?_
  refine c_SL_charAt (by omega) hi hj ?_
  rw [eb]
  refine wp_ireturn d_Sg_charAt_15 rfl (ch_fit b hb) ?_
  rw [← eb]
  exact k
set_option maxRecDepth 4000 in
theorem c_SL_canEncode {t : Nat} (hD : 0 ≤ D) (ht : t < 128) (k : Q (some (.int 1)) h) : px_W G D 0 0 m_SL_canEncode 0 (px_ent 1 [.int (nI t)]) [] h Q := by
  show px_W _ _ _ _ _ _ [some (.int (nI t))] [] _ _
  refine wp_iload_n d_SL_canEncode_0 rfl rfl ?_
  refine wp_if_lt (t := 15) d_SL_canEncode_1 (by decide) (fun c_1 => absurd c_1 (nI_pos (by omega))) (fun c_1 => ?_)
  refine wp_iload_n d_SL_canEncode_4 rfl rfl ?_
  refine wp_sipush (v := (nI 255)) d_SL_canEncode_5 (by decide) ?_
  refine wp_icmp_gt (t := 15) d_SL_canEncode_8 (by decide) (fun c_8 => absurd c_8 (nI_nlt (by omega) (by omega))) (fun c_8 => ?_)
  refine wp_iconst (v := 1) d_SL_canEncode_11 rfl ?_
  refine wp_goto (t := 16) d_SL_canEncode_12 (by decide) ?_
  refine wp_ireturn d_SL_canEncode_16 rfl rfl ?_
  exact k
set_option maxRecDepth 4000 in
theorem l_SL_indexOfChar_7 {t : Nat} {v2 : Int32} (hi : i < 3) : ∀ (q m : Nat), m + q = px_len.getD i 0 → Q (some (.int (ixo (sbt i) (nI t) q m))) h → px_W G D 0 0 m_SL_indexOfChar 7 [some (.retAddr (6 + i)), some (.int (nI t)), some (.int v2), some (.int (nI (px_len.getD i 0))), some (.int (nI t)), some (.int (nI m))] [] h Q := by
  have hl25 := slen i hi
  intro q
  induction q with
  | zero =>
    intro m hmq k
    refine wp_iload d_SL_indexOfChar_7 rfl ?_
    refine wp_iload_n d_SL_indexOfChar_9 rfl rfl ?_
    refine wp_icmp_ge (t := 31) d_SL_indexOfChar_10 (by decide) (fun c_10 => ?_) (fun c_10 => absurd (nI_le (by omega) (by omega)) c_10)
    refine wp_iconst (v := (-1)) d_SL_indexOfChar_31 rfl ?_
    refine wp_ireturn d_SL_indexOfChar_32 rfl rfl ?_
    exact k
  | succ q ih =>
    intro m hmq k
    refine wp_iload d_SL_indexOfChar_7 rfl ?_
    refine wp_iload_n d_SL_indexOfChar_9 rfl rfl ?_
    refine wp_icmp_ge (t := 31) d_SL_indexOfChar_10 (by decide) (fun c_10 => absurd c_10 (nI_ge (by omega) (by omega))) (fun c_10 => ?_)
    refine wp_aload_n d_SL_indexOfChar_13 rfl rfl rfl ?_
    refine wp_iload d_SL_indexOfChar_14 rfl ?_
    refine wp_strb hi d_SL_indexOfChar_16 (vp_in_nI (by omega) (by omega)) ?_
    rw [nI_clamp (by omega), show (px_byt.getD i []).getD m 0 = sbt i m from rfl]
    refine wp_iload d_SL_indexOfChar_17 rfl ?_
    refine wp_icmp_ne (t := 25) d_SL_indexOfChar_19 (by decide) (fun c_19 => ?_) (fun c_19 => ?_)
    · skip
      refine wp_iinc (v := _ + 1) (ls' := [_, _, _, _, _, _]) d_SL_indexOfChar_25 (by decide) rfl rfl rfl ?_
      refine wp_goto (t := 7) d_SL_indexOfChar_28 (by decide) ?_
      rw [ixo, if_neg c_19] at k
      rw [show nI m + 1 = nI (m + 1) from nI_1 m]
      exact ih (m + 1) (by omega) k
    · skip
      refine wp_iload d_SL_indexOfChar_22 rfl ?_
      refine wp_ireturn d_SL_indexOfChar_24 rfl rfl ?_
      rw [ixo, if_pos c_19] at k
      exact k
set_option maxRecDepth 4000 in
theorem c_SL_indexOfChar {t : Nat} (hD : 0 ≤ D) (hi : i < 3) (ht : t < 128) (k : Q (some (.int (ixo (sbt i) (nI t) (px_len.getD i 0) 0))) h) : px_W G D 0 0 m_SL_indexOfChar 0 (px_ent 6 [.retAddr (6 + i), .int (nI t), .int (nI 0), .int (nI (px_len.getD i 0))]) [] h Q := by
  show px_W _ _ _ _ _ _ [some (.retAddr (6 + i)), some (.int (nI t)), some (.int (nI 0)), some (.int (nI (px_len.getD i 0))), none, none] [] _ _
  refine wp_iload_n d_SL_indexOfChar_0 rfl rfl ?_
  refine wp_i2b d_SL_indexOfChar_1 ?_
  rw [byt_i t ht]
  refine wp_istore (ls' := [_, _, _, _, _, _]) d_SL_indexOfChar_2 (by decide) rfl ?_
  refine wp_iload_n d_SL_indexOfChar_4 rfl rfl ?_
  refine wp_istore (ls' := [_, _, _, _, _, _]) d_SL_indexOfChar_5 (by decide) rfl ?_
  exact l_SL_indexOfChar_7 hi (px_len.getD i 0) 0 (Nat.zero_add _) k
theorem slen0 : ∀ i, i < 3 → 0 < px_len.getD i 0 := by decide
set_option maxRecDepth 4000 in
theorem c_SL_indexOf {t : Nat} (hD : 1 ≤ D) (hi : i < 3) (ht : t < 128) (k : Q (some (.int (ixo (sbt i) (nI t) (px_len.getD i 0) 0))) h) : px_W G D 0 0 m_SL_indexOf 0 (px_ent 4 [.retAddr (6 + i), .int (nI t), .int (nI 0), .int (nI (px_len.getD i 0))]) [] h Q := by
  have hl25 := slen i hi
  show px_W _ _ _ _ _ _ [some (.retAddr (6 + i)), some (.int (nI t)), some (.int (nI 0)), some (.int (nI (px_len.getD i 0)))] [] _ _
  refine wp_iload_n d_SL_indexOf_0 rfl rfl ?_
  refine wp_callS (M' := m_SL_canEncode) (as := [_]) (D' := D - 1) (C1 := 0) (C2 := 0) (S1 := 0) (S2 := 0) d_SL_indexOf_1 w_612 w_613 k_SL_canEncode (Nat.le_of_ble_eq_true rfl) rfl (Nat.le_of_ble_eq_true rfl) (by omega) rfl rfl ?_
  refine c_SL_canEncode (by omega) ht ?_
  refine wp_if_ne (t := 9) d_SL_indexOf_4 (by decide) (fun c_4 => ?_) (fun c_4 => (absurd c_4 (by decide)))
  refine wp_iload_n d_SL_indexOf_9 rfl rfl ?_
  refine wp_iconst (v := (nI 0)) d_SL_indexOf_10 rfl ?_
  refine wp_max d_SL_indexOf_11 w_615 (Nat.le_of_ble_eq_true rfl) (by omega) ?_
  rw [if_neg (show ¬ (nI 0) < (nI 0) from by decide)]
  refine wp_istore_n (ls' := [_, _, _, _]) d_SL_indexOf_14 rfl (by decide) rfl ?_
  refine wp_iload_n d_SL_indexOf_15 rfl rfl ?_
  refine wp_aload_n d_SL_indexOf_16 rfl rfl rfl ?_
  refine wp_strlen hi d_SL_indexOf_17 (show Int32.ofNat (px_len.getD i 0) = nI (px_len.getD i 0) from rfl) ?_
  refine wp_min d_SL_indexOf_18 w_616 (Nat.le_of_ble_eq_true rfl) (by omega) ?_
  rw [if_neg (Int32.lt_irrefl)]
  refine wp_istore_n (ls' := [_, _, _, _]) d_SL_indexOf_21 rfl (by decide) rfl ?_
  refine wp_iload_n d_SL_indexOf_22 rfl rfl ?_
  refine wp_iload_n d_SL_indexOf_23 rfl rfl ?_
  refine wp_icmp_lt (t := 29) d_SL_indexOf_24 (by decide) (fun c_24 => ?_) (fun c_24 => absurd (nI_lt (show 0 < px_len.getD i 0 from slen0 i hi) (by omega)) c_24)
  refine wp_aload_n d_SL_indexOf_29 rfl rfl rfl ?_
  refine wp_iload_n d_SL_indexOf_30 rfl rfl ?_
  refine wp_iload_n d_SL_indexOf_31 rfl rfl ?_
  refine wp_iload_n d_SL_indexOf_32 rfl rfl ?_
  refine wp_callS (M' := m_SL_indexOfChar) (as := [_, _, _, _]) (D' := D - 1) (C1 := 0) (C2 := 0) (S1 := 0) (S2 := 0) d_SL_indexOf_33 w_617 w_618 k_SL_indexOfChar (Nat.le_of_ble_eq_true rfl) rfl (Nat.le_of_ble_eq_true rfl) (by omega) rfl rfl ?_
  refine c_SL_indexOfChar (by omega) hi ht ?_
  refine wp_ireturn d_SL_indexOf_36 rfl rfl ?_
  exact k
set_option maxRecDepth 4000 in
theorem c_Sg_indexOf_II {t : Nat} (hD : 2 ≤ D) (hi : i < 3) (ht : t < 128) (k : Q (some (.int (ixo (sbt i) (nI t) (px_len.getD i 0) 0))) h) : px_W G D 0 0 m_Sg_indexOf_II 0 (px_ent 3 [.retAddr (3 + i), .int (nI t), .int (nI 0)]) [] h Q := by
  show px_W _ _ _ _ _ _ [some (.retAddr (3 + i)), some (.int (nI t)), some (.int (nI 0))] [] _ _
  refine wp_aload_n d_Sg_indexOf_II_0 rfl rfl rfl ?_
  refine wp_callSTR (i := i) (M' := m_Sg_isLatin1) (as := []) (D' := D - 1) (C1 := 0) (C2 := 0) (S1 := 0) (S2 := 0) hi d_Sg_indexOf_II_1 w_541 w_542 w_543 k_Sg_isLatin1 (Nat.le_of_ble_eq_true rfl) rfl (Nat.le_of_ble_eq_true rfl) (by omega) rfl rfl ?_
  refine c_Sg_isLatin1 (by omega) hi ?_
  refine wp_if_eq (t := 23) d_Sg_indexOf_II_4 (by decide) (fun c_4 => (absurd c_4 (by decide))) (fun c_4 => ?_)
  refine wp_aload_n d_Sg_indexOf_II_7 rfl rfl rfl ?_
  refine wp_strvalue hi d_Sg_indexOf_II_8 w_1597 ?_
  refine wp_iload_n d_Sg_indexOf_II_11 rfl rfl ?_
  refine wp_iload_n d_Sg_indexOf_II_12 rfl rfl ?_
  refine wp_aload_n d_Sg_indexOf_II_13 rfl rfl rfl ?_
  refine wp_callSTR (i := i) (M' := m_Sg_length) (as := []) (D' := D - 1) (C1 := 0) (C2 := 0) (S1 := 0) (S2 := 0) hi d_Sg_indexOf_II_14 w_608 w_528 w_529 k_Sg_length (Nat.le_of_ble_eq_true rfl) rfl (Nat.le_of_ble_eq_true rfl) (by omega) rfl rfl ?_
  refine c_Sg_length (by omega) hi ?_
  refine wp_callS (M' := m_SL_indexOf) (as := [_, _, _, _]) (D' := D - 1) (C1 := 0) (C2 := 0) (S1 := 0) (S2 := 0) d_Sg_indexOf_II_17 w_609 w_610 k_SL_indexOf (Nat.le_of_ble_eq_true rfl) rfl (Nat.le_of_ble_eq_true rfl) (by omega) rfl rfl ?_
  refine c_SL_indexOf (by omega) hi ht ?_
  refine wp_goto (t := 36) d_Sg_indexOf_II_20 (by decide) ?_
  refine wp_ireturn d_Sg_indexOf_II_36 rfl rfl ?_
  exact k
set_option maxRecDepth 4000 in
theorem c_Sg_indexOf_I {t : Nat} (hD : 3 ≤ D) (hi : i < 3) (ht : t < 128) (k : Q (some (.int (ixo (sbt i) (nI t) (px_len.getD i 0) 0))) h) : px_W G D 0 0 m_Sg_indexOf_I 0 (px_ent 2 [.retAddr (3 + i), .int (nI t)]) [] h Q := by
  show px_W _ _ _ _ _ _ [some (.retAddr (3 + i)), some (.int (nI t))] [] _ _
  refine wp_aload_n d_Sg_indexOf_I_0 rfl rfl rfl ?_
  refine wp_iload_n d_Sg_indexOf_I_1 rfl rfl ?_
  refine wp_iconst (v := (nI 0)) d_Sg_indexOf_I_2 rfl ?_
  refine wp_callSTR (i := i) (M' := m_Sg_indexOf_II) (as := [_, _]) (D' := D - 1) (C1 := 0) (C2 := 0) (S1 := 0) (S2 := 0) hi d_Sg_indexOf_I_3 w_604 w_605 w_606 k_Sg_indexOf_II (Nat.le_of_ble_eq_true rfl) rfl (Nat.le_of_ble_eq_true rfl) (by omega) rfl rfl ?_
  refine c_Sg_indexOf_II (by omega) hi ht ?_
  refine wp_ireturn d_Sg_indexOf_I_6 rfl rfl ?_
  exact k
end TS
