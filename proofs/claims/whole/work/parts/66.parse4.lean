/-- what a clause leaves of rise, rest and pull -/
def wcl (w : Int32 × Int32 × Int32) (c : sp_Cl) : Int32 × Int32 × Int32 := if c.1 = 2 then (nI c.2.1, w.2.1, w.2.2) else if c.1 = 3 then (w.1, nI c.2.1, w.2.2) else if c.1 = 4 then (w.1, w.2.1, sp_one (nI c.2.1)) else w
theorem wcl_1 (cl : List sp_Cl) (w : Int32 × Int32 × Int32) : (cl.foldl wcl w).1 = sp_last 2 cl w.1 := by
  induction cl generalizing w with
  | nil => rfl
  | cons c cl ih =>
    rw [List.foldl_cons, ih, sp_last, sp_last, List.foldl_cons]
    congr 1
    rw [wcl]
    by_cases h2 : c.1 = 2
    · rw [if_pos h2, if_pos h2]
    · rw [if_neg h2, if_neg h2]
      split
      · rfl
      · split <;> rfl
theorem wcl_2 (cl : List sp_Cl) (w : Int32 × Int32 × Int32) : (cl.foldl wcl w).2.1 = sp_last 3 cl w.2.1 := by
  induction cl generalizing w with
  | nil => rfl
  | cons c cl ih =>
    rw [List.foldl_cons, ih, sp_last, sp_last, List.foldl_cons]
    congr 1
    rw [wcl]
    by_cases h2 : c.1 = 2
    · rw [if_pos h2, if_neg (by omega)]
    · rw [if_neg h2]
      by_cases h3 : c.1 = 3
      · rw [if_pos h3, if_pos h3]
      · rw [if_neg h3, if_neg h3]
        split <;> rfl
theorem wcl_3 (cl : List sp_Cl) (w : Int32 × Int32 × Int32) (x : Int32) (hx : w.2.2 = sp_one x) : (cl.foldl wcl w).2.2 = sp_one (sp_last 4 cl x) := by
  induction cl generalizing w x with
  | nil => exact hx
  | cons c cl ih =>
    rw [List.foldl_cons, sp_last, List.foldl_cons]
    refine ih _ _ ?_
    rw [wcl]
    by_cases h2 : c.1 = 2
    · rw [if_pos h2, if_neg (by omega)]; exact hx
    · rw [if_neg h2]
      by_cases h3 : c.1 = 3
      · rw [if_pos h3, if_neg (by omega)]; exact hx
      · rw [if_neg h3]
        by_cases h4 : c.1 = 4
        · rw [if_pos h4, if_pos h4]
        · rw [if_neg h4, if_neg h4]; exact hx
theorem wcl_e (cl : List sp_Cl) : cl.foldl wcl (5, 3, 40) = (sp_rise cl, sp_rest cl, sp_pull cl) := Prod.ext (wcl_1 cl _) (Prod.ext (wcl_2 cl _) (wcl_3 cl _ 40 rfl))
theorem one_mx (d : Nat) (hd : d < 100) : (if (1 : Int32) < nI d then nI d else 1) = sp_one (nI d) := by
  have h : ∀ d, d < 100 → (if (1 : Int32) < nI d then nI d else 1) = sp_one (nI d) := by decide +kernel
  exact h d hd
theorem five {w : Nat} (h : w ≤ 4) : w = 0 ∨ w = 1 ∨ w = 2 ∨ w = 3 ∨ w = 4 := by omega
theorem pz_self {h0 : px_H} {c : Nat} {fs : List Value} {g : Nat → Int32} (h1 : h0[c]? = some (.inr (3, fs))) (h2 : h0[c + 1]? = some (iA 100 g)) : h0 = PZ h0 c fs g := by
  rw [PZ, px_set_id h1, px_set_id h2]

section TPC
variable {G : px_G} {D : Nat} {h0 : px_H} {c n p : Nat} {cc0 f : Nat → Int32} {w : Int32 × Int32 × Int32} {os : List Int32} {T : Nat → Nat} {Q : Option Value → px_H → Prop}
set_option maxRecDepth 4000 in
theorem c_Sc_readClause  (hD : 22 ≤ D) (hX : ph_ok h0 c f) (hT : ph_tx f T n) (hpn : p ≤ n) (hos : os.length ≤ p) (kt : ∀ cl p', sp_cla T n p = (some cl, p') → Q (some (.int 1)) (PS h0 c n cc0 (wcl w cl) p' (os ++ tc_cc cl))) (kf : ∀ p' os', sp_cla T n p = (none, p') → Q (some (.int 0)) (PS h0 c n cc0 w p' os')) : px_W G D 0 0 m_Sc_readClause 0 (px_ent 3 [.ref c]) [] (PS h0 c n cc0 w p os) Q := by
  have hn := hT.1
  show px_W _ _ _ _ _ _ [some (.ref c), none, none] [] _ _
  refine wp_aload_n d_Sc_readClause_0 rfl rfl rfl ?_
  refine wp_callV (r := (R_3, T_3, 10)) (M' := m_Sc_readWord) (as := []) (D' := D - 1) (C1 := 0) (C2 := 0) (S1 := 0) (S2 := 0) d_Sc_readClause_1 rfl w_522 w_524 w_4 (pz_c hX) k_Sc_readWord (Nat.le_of_ble_eq_true rfl) rfl (Nat.le_of_ble_eq_true rfl) (by omega) rfl rfl ?_
  refine c_Sc_readWord (by omega) hX hT hpn (fun j' p1 hw => ?_) (fun p1 hw => ?_)
  · skip
    have hj4 : j' = sp_wd T n p ∧ sp_hd T n p = (if sp_is T n p1 32 then (true, p1 + 1) else (false, p1)) := by
      rcases hd_wo (T := T) (n := n) (p := p) with ⟨ha, hb⟩ | ⟨ha, hb⟩
      · rw [ha] at hw; cases hw; exact ⟨rfl, hb⟩
      · rw [ha] at hw; cases hw
    obtain ⟨rfl, hhd⟩ := hj4
    have hp1 : p ≤ p1 ∧ p1 ≤ n := by
      rcases hd_wo (T := T) (n := n) (p := p) with ⟨ha, hb⟩ | ⟨ha, hb⟩
      · rw [ha] at hw
        have e : p + wa T n p (sp_wd T n p) = p1 := congrArg Prod.snd hw
        rw [← e]
        exact ⟨Nat.le_add_right _ _, wnl_n _ _ hpn⟩
      · rw [ha] at hw; cases hw
    refine wp_istore_n (ls' := [_, _, _]) d_Sc_readClause_4 rfl (by decide) rfl ?_
    refine wp_iload_n d_Sc_readClause_5 rfl rfl ?_
    refine wp_if_lt (t := 18) d_Sc_readClause_6 (by decide) (fun c_6 => ?_) (fun c_6 => ?_)
    · skip
      refine wp_iconst (v := 0) d_Sc_readClause_18 rfl ?_
      refine wp_ireturn d_Sc_readClause_19 rfl rfl ?_
      first
        | exact kf _ _ (by rw [sp_cla, hh])
        | exact absurd c_6 (nI_pos (by have := sp_wd_4 (T := T) (n := n) (p := p); omega))
    · skip
      refine wp_aload_n d_Sc_readClause_9 rfl rfl rfl ?_
      refine wp_bipush (v := (nI 32)) d_Sc_readClause_10 (by decide) ?_
      refine wp_callV (r := (R_3, T_3, 10)) (M' := m_Sc_passes) (as := [_]) (D' := D - 1) (C1 := 0) (C2 := 0) (S1 := 0) (S2 := 0) d_Sc_readClause_12 rfl w_575 w_577 w_5 (pz_c hX) k_Sc_passes (Nat.le_of_ble_eq_true rfl) rfl (Nat.le_of_ble_eq_true rfl) (by omega) rfl rfl ?_
      refine c_Sc_passes (by omega) hX hT (by omega) (by decide) (fun hi => ?_) (fun hi => ?_)
      · skip
        have hlt := hi.1
        have hh : sp_hd T n p = (true, p1 + 1) := by rw [hhd, if_pos hi]
        refine wp_if_ne (t := 20) d_Sc_readClause_15 (by decide) (fun c_15 => ?_) (fun c_15 => (absurd c_15 (by decide)))
        refine wp_aload_n d_Sc_readClause_20 rfl rfl rfl ?_
        refine wp_callV (r := (R_3, T_3, 10)) (M' := m_Sc_readNumber) (as := []) (D' := D - 1) (C1 := 0) (C2 := 0) (S1 := 0) (S2 := 0) d_Sc_readClause_21 rfl w_579 w_581 w_6 (pz_c hX) k_Sc_readNumber (Nat.le_of_ble_eq_true rfl) rfl (Nat.le_of_ble_eq_true rfl) (by omega) rfl rfl ?_
        refine c_Sc_readNumber (by omega) hX hT (by omega) (fun d p2 hr => ?_) (fun p2 hr => ?_)
        · skip
          have hb := sp_num_b hr
          refine wp_istore_n (ls' := [_, _, _]) d_Sc_readClause_24 rfl (by decide) rfl ?_
          refine wp_iload_n d_Sc_readClause_25 rfl rfl ?_
          refine wp_if_ge (t := 31) d_Sc_readClause_26 (by decide) (fun c_26 => ?_) (fun c_26 => ?_)
          · skip
            rcases five (sp_wd_4 (T := T) (n := n) (p := p)) with h5 | h5 | h5 | h5 | h5
            · rw [h5]
              refine wp_iload_n d_Sc_readClause_31 rfl rfl ?_
              refine wp_tableIn (off := 32) (t := 64) d_Sc_readClause_32 (by decide) (by decide) rfl (by decide) ?_
              refine wp_aload_n d_Sc_readClause_64 rfl rfl rfl ?_
              refine wp_bipush (v := (nI 32)) d_Sc_readClause_65 (by decide) ?_
              refine wp_callV (r := (R_3, T_3, 10)) (M' := m_Sc_passes) (as := [_]) (D' := D - 1) (C1 := 0) (C2 := 0) (S1 := 0) (S2 := 0) d_Sc_readClause_67 rfl w_575 w_577 w_5 (pz_c hX) k_Sc_passes (Nat.le_of_ble_eq_true rfl) rfl (Nat.le_of_ble_eq_true rfl) (by omega) rfl rfl ?_
              refine c_Sc_passes (by omega) hX hT (by omega) (by decide) (fun hi => ?_) (fun hi => ?_)
              · skip
                have hlt := hi.1
                refine wp_if_eq (t := 96) d_Sc_readClause_70 (by decide) (fun c_70 => (absurd c_70 (by decide))) (fun c_70 => ?_)
                refine wp_aload_n d_Sc_readClause_73 rfl rfl rfl ?_
                refine wp_iconst (v := (nI 0)) d_Sc_readClause_74 rfl ?_
                refine wp_callV (r := (R_3, T_3, 10)) (M' := m_Sc_readEither) (as := [_]) (D' := D - 1) (C1 := 0) (C2 := 0) (S1 := 0) (S2 := 0) d_Sc_readClause_75 rfl w_583 w_585 w_7 (pz_c hX) k_Sc_readEither (Nat.le_of_ble_eq_true rfl) rfl (Nat.le_of_ble_eq_true rfl) (by omega) rfl rfl ?_
                refine c_Sc_E (by omega) hX hT (by omega) (by omega) (fun l p3 hl => ?_) (fun p3 os3 hl => ?_)
                · skip
                  have hbl := sp_E_d (by omega) hl
                  refine wp_if_eq (t := 96) d_Sc_readClause_78 (by decide) (fun c_78 => (absurd c_78 (by decide))) (fun c_78 => ?_)
                  refine wp_aload_n d_Sc_readClause_81 rfl rfl rfl ?_
                  refine wp_bipush (v := (-100)) d_Sc_readClause_82 (by decide) ?_
                  refine wp_iload_n d_Sc_readClause_84 rfl rfl ?_
                  refine wp_isub d_Sc_readClause_85 ?_
                  refine wp_callV (r := (R_3, T_3, 10)) (M' := m_Sc_emit) (as := [_]) (D' := D - 1) (C1 := 0) (C2 := 0) (S1 := 0) (S2 := 0) d_Sc_readClause_86 rfl w_656 w_658 w_11 (pz_c hX) k_Sc_emit (Nat.le_of_ble_eq_true rfl) rfl (Nat.le_of_ble_eq_true rfl) (by omega) rfl rfl ?_
                  refine c_Sc_emit (by omega) hX (by simp only [List.length_append, List.length_map]; omega) ?_
                  refine wp_if_eq (t := 96) d_Sc_readClause_89 (by decide) (fun c_89 => (absurd c_89 (by decide))) (fun c_89 => ?_)
                  refine wp_iconst (v := 1) d_Sc_readClause_92 rfl ?_
                  refine wp_goto (t := 97) d_Sc_readClause_93 (by decide) ?_
                  refine wp_ireturn d_Sc_readClause_97 rfl rfl ?_
                  have := kt (0, d, l) p3 (by rw [sp_cla, hh]; simp only [hr, h5, if_neg (show ¬ 2 ≤ 0 by decide), if_pos hi, hl])
                  rw [show tc_cc (0, d, l) = l.map tc_enc ++ [tc_add (0, d, l)] from rfl, ← List.append_assoc] at this
                  exact this
                · skip
                  refine wp_if_eq (t := 96) d_Sc_readClause_78 (by decide) (fun c_78 => ?_) (fun c_78 => (absurd c_78 (by decide)))
                  refine wp_iconst (v := 0) d_Sc_readClause_96 rfl ?_
                  refine wp_ireturn d_Sc_readClause_97 rfl rfl ?_
                  first
                    | (have hc : ¬ sp_is T n p2 32 := hi
                       exact kf _ _ (by rw [sp_cla, hh]; simp only [hr, h5, if_neg (show ¬ 2 ≤ 0 by decide), if_neg hc]))
                    | exact kf _ _ (by rw [sp_cla, hh]; simp only [hr, h5, if_neg (show ¬ 2 ≤ 0 by decide), if_pos hi, hl])
              · skip
                refine wp_if_eq (t := 96) d_Sc_readClause_70 (by decide) (fun c_70 => ?_) (fun c_70 => (absurd c_70 (by decide)))
                refine wp_iconst (v := 0) d_Sc_readClause_96 rfl ?_
                refine wp_ireturn d_Sc_readClause_97 rfl rfl ?_
                first
                  | (have hc : ¬ sp_is T n p2 32 := hi
                     exact kf _ _ (by rw [sp_cla, hh]; simp only [hr, h5, if_neg (show ¬ 2 ≤ 0 by decide), if_neg hc]))
                  | exact kf _ _ (by rw [sp_cla, hh]; simp only [hr, h5, if_neg (show ¬ 2 ≤ 0 by decide), if_pos hi, hl])
            · rw [h5]
              refine wp_iload_n d_Sc_readClause_31 rfl rfl ?_
              refine wp_tableIn (off := 66) (t := 98) d_Sc_readClause_32 (by decide) (by decide) rfl (by decide) ?_
              refine wp_aload_n d_Sc_readClause_98 rfl rfl rfl ?_
              refine wp_bipush (v := (nI 32)) d_Sc_readClause_99 (by decide) ?_
              refine wp_callV (r := (R_3, T_3, 10)) (M' := m_Sc_passes) (as := [_]) (D' := D - 1) (C1 := 0) (C2 := 0) (S1 := 0) (S2 := 0) d_Sc_readClause_101 rfl w_575 w_577 w_5 (pz_c hX) k_Sc_passes (Nat.le_of_ble_eq_true rfl) rfl (Nat.le_of_ble_eq_true rfl) (by omega) rfl rfl ?_
              refine c_Sc_passes (by omega) hX hT (by omega) (by decide) (fun hi => ?_) (fun hi => ?_)
              · skip
                have hlt := hi.1
                refine wp_if_eq (t := 131) d_Sc_readClause_104 (by decide) (fun c_104 => (absurd c_104 (by decide))) (fun c_104 => ?_)
                refine wp_aload_n d_Sc_readClause_107 rfl rfl rfl ?_
                refine wp_iconst (v := (nI 0)) d_Sc_readClause_108 rfl ?_
                refine wp_callV (r := (R_3, T_3, 10)) (M' := m_Sc_readEither) (as := [_]) (D' := D - 1) (C1 := 0) (C2 := 0) (S1 := 0) (S2 := 0) d_Sc_readClause_109 rfl w_583 w_585 w_7 (pz_c hX) k_Sc_readEither (Nat.le_of_ble_eq_true rfl) rfl (Nat.le_of_ble_eq_true rfl) (by omega) rfl rfl ?_
                refine c_Sc_E (by omega) hX hT (by omega) (by omega) (fun l p3 hl => ?_) (fun p3 os3 hl => ?_)
                · skip
                  have hbl := sp_E_d (by omega) hl
                  refine wp_if_eq (t := 131) d_Sc_readClause_112 (by decide) (fun c_112 => (absurd c_112 (by decide))) (fun c_112 => ?_)
                  refine wp_aload_n d_Sc_readClause_115 rfl rfl rfl ?_
                  refine wp_sipush (v := (-300)) d_Sc_readClause_116 (by decide) ?_
                  refine wp_iload_n d_Sc_readClause_119 rfl rfl ?_
                  refine wp_isub d_Sc_readClause_120 ?_
                  refine wp_callV (r := (R_3, T_3, 10)) (M' := m_Sc_emit) (as := [_]) (D' := D - 1) (C1 := 0) (C2 := 0) (S1 := 0) (S2 := 0) d_Sc_readClause_121 rfl w_656 w_658 w_11 (pz_c hX) k_Sc_emit (Nat.le_of_ble_eq_true rfl) rfl (Nat.le_of_ble_eq_true rfl) (by omega) rfl rfl ?_
                  refine c_Sc_emit (by omega) hX (by simp only [List.length_append, List.length_map]; omega) ?_
                  refine wp_if_eq (t := 131) d_Sc_readClause_124 (by decide) (fun c_124 => (absurd c_124 (by decide))) (fun c_124 => ?_)
                  refine wp_iconst (v := 1) d_Sc_readClause_127 rfl ?_
                  refine wp_goto (t := 132) d_Sc_readClause_128 (by decide) ?_
                  refine wp_ireturn d_Sc_readClause_132 rfl rfl ?_
                  have := kt (1, d, l) p3 (by rw [sp_cla, hh]; simp only [hr, h5, if_neg (show ¬ 2 ≤ 1 by decide), if_pos hi, hl])
                  rw [show tc_cc (1, d, l) = l.map tc_enc ++ [tc_add (1, d, l)] from rfl, ← List.append_assoc] at this
                  exact this
                · skip
                  refine wp_if_eq (t := 131) d_Sc_readClause_112 (by decide) (fun c_112 => ?_) (fun c_112 => (absurd c_112 (by decide)))
                  refine wp_iconst (v := 0) d_Sc_readClause_131 rfl ?_
                  refine wp_ireturn d_Sc_readClause_132 rfl rfl ?_
                  first
                    | (have hc : ¬ sp_is T n p2 32 := hi
                       exact kf _ _ (by rw [sp_cla, hh]; simp only [hr, h5, if_neg (show ¬ 2 ≤ 1 by decide), if_neg hc]))
                    | exact kf _ _ (by rw [sp_cla, hh]; simp only [hr, h5, if_neg (show ¬ 2 ≤ 1 by decide), if_pos hi, hl])
              · skip
                refine wp_if_eq (t := 131) d_Sc_readClause_104 (by decide) (fun c_104 => ?_) (fun c_104 => (absurd c_104 (by decide)))
                refine wp_iconst (v := 0) d_Sc_readClause_131 rfl ?_
                refine wp_ireturn d_Sc_readClause_132 rfl rfl ?_
                first
                  | (have hc : ¬ sp_is T n p2 32 := hi
                     exact kf _ _ (by rw [sp_cla, hh]; simp only [hr, h5, if_neg (show ¬ 2 ≤ 1 by decide), if_neg hc]))
                  | exact kf _ _ (by rw [sp_cla, hh]; simp only [hr, h5, if_neg (show ¬ 2 ≤ 1 by decide), if_pos hi, hl])
            · rw [h5]
              refine wp_iload_n d_Sc_readClause_31 rfl rfl ?_
              refine wp_tableIn (off := 101) (t := 133) d_Sc_readClause_32 (by decide) (by decide) rfl (by decide) ?_
              refine wp_aload_n d_Sc_readClause_133 rfl rfl rfl ?_
              refine wp_iload_n d_Sc_readClause_134 rfl rfl ?_
              refine wp_putf d_Sc_readClause_135 pgf_Sc_18_3 (pz_c hX) (Nat.le_of_ble_eq_true rfl) rfl rfl (pz_sc hX) ?_
              refine wp_iconst (v := 1) d_Sc_readClause_138 rfl ?_
              refine wp_ireturn d_Sc_readClause_139 rfl rfl ?_
              have := kt (2, d, []) p2 (by rw [sp_cla, hh]; simp only [hr, h5, if_pos (show 2 ≤ 2 by decide)])
              rw [show tc_cc (2, d, []) = [] from rfl, List.append_nil] at this
              exact this
            · rw [h5]
              refine wp_iload_n d_Sc_readClause_31 rfl rfl ?_
              refine wp_tableIn (off := 108) (t := 140) d_Sc_readClause_32 (by decide) (by decide) rfl (by decide) ?_
              refine wp_aload_n d_Sc_readClause_140 rfl rfl rfl ?_
              refine wp_iload_n d_Sc_readClause_141 rfl rfl ?_
              refine wp_putf d_Sc_readClause_142 pgf_Sc_22_3 (pz_c hX) (Nat.le_of_ble_eq_true rfl) rfl rfl (pz_sc hX) ?_
              refine wp_iconst (v := 1) d_Sc_readClause_145 rfl ?_
              refine wp_ireturn d_Sc_readClause_146 rfl rfl ?_
              have := kt (3, d, []) p2 (by rw [sp_cla, hh]; simp only [hr, h5, if_pos (show 2 ≤ 3 by decide)])
              rw [show tc_cc (3, d, []) = [] from rfl, List.append_nil] at this
              exact this
            · rw [h5]
              refine wp_iload_n d_Sc_readClause_31 rfl rfl ?_
              refine wp_tableOut (t := 147) d_Sc_readClause_32 (by decide) (by decide) ?_
              refine wp_aload_n d_Sc_readClause_147 rfl rfl rfl ?_
              refine wp_iconst (v := 1) d_Sc_readClause_148 rfl ?_
              refine wp_iload_n d_Sc_readClause_149 rfl rfl ?_
              refine wp_max d_Sc_readClause_150 w_108 (Nat.le_of_ble_eq_true rfl) (by omega) ?_
              rw [one_mx d hb.1]
              refine wp_putf d_Sc_readClause_153 pgf_Sc_25_3 (pz_c hX) (Nat.le_of_ble_eq_true rfl) rfl rfl (pz_sc hX) ?_
              refine wp_iconst (v := 1) d_Sc_readClause_156 rfl ?_
              refine wp_ireturn d_Sc_readClause_157 rfl rfl ?_
              have := kt (4, d, []) p2 (by rw [sp_cla, hh]; simp only [hr, h5, if_pos (show 2 ≤ 4 by decide)])
              rw [show tc_cc (4, d, []) = [] from rfl, List.append_nil] at this
              exact this
          · skip
            refine wp_iconst (v := 0) d_Sc_readClause_29 rfl ?_
            refine wp_ireturn d_Sc_readClause_30 rfl rfl ?_
            first
              | (have hx := hb.1
                 exact absurd (nI_pos' (by omega)) c_26)
              | exact kf _ _ (by rw [sp_cla, hh]; simp only [hr])
        · skip
          refine wp_istore_n (ls' := [_, _, _]) d_Sc_readClause_24 rfl (by decide) rfl ?_
          refine wp_iload_n d_Sc_readClause_25 rfl rfl ?_
          refine wp_if_ge (t := 31) d_Sc_readClause_26 (by decide) (fun c_26 => (absurd c_26 (by decide))) (fun c_26 => ?_)
          refine wp_iconst (v := 0) d_Sc_readClause_29 rfl ?_
          refine wp_ireturn d_Sc_readClause_30 rfl rfl ?_
          first
            | (have hx := hb.1
               exact absurd (nI_pos' (by omega)) c_26)
            | exact kf _ _ (by rw [sp_cla, hh]; simp only [hr])
      · skip
        have hh : sp_hd T n p = (false, p1) := by rw [hhd, if_neg hi]
        refine wp_if_ne (t := 20) d_Sc_readClause_15 (by decide) (fun c_15 => (absurd c_15 (by decide))) (fun c_15 => ?_)
        refine wp_iconst (v := 0) d_Sc_readClause_18 rfl ?_
        refine wp_ireturn d_Sc_readClause_19 rfl rfl ?_
        first
          | exact kf _ _ (by rw [sp_cla, hh])
          | exact absurd c_6 (nI_pos (by have := sp_wd_4 (T := T) (n := n) (p := p); omega))
  · skip
    have hh : sp_hd T n p = (false, p1) := by
      rcases hd_wo (T := T) (n := n) (p := p) with ⟨ha, hb⟩ | ⟨ha, hb⟩
      · rw [ha] at hw; cases hw
      · rw [ha] at hw; cases hw; exact hb
    refine wp_istore_n (ls' := [_, _, _]) d_Sc_readClause_4 rfl (by decide) rfl ?_
    refine wp_iload_n d_Sc_readClause_5 rfl rfl ?_
    refine wp_if_lt (t := 18) d_Sc_readClause_6 (by decide) (fun c_6 => ?_) (fun c_6 => (absurd c_6 (by decide)))
    refine wp_iconst (v := 0) d_Sc_readClause_18 rfl ?_
    refine wp_ireturn d_Sc_readClause_19 rfl rfl ?_
    first
      | exact kf _ _ (by rw [sp_cla, hh])
      | exact absurd c_6 (nI_pos (by have := sp_wd_4 (T := T) (n := n) (p := p); omega))
theorem cc_len {T : Nat → Nat} {n p w d p' : Nat} {l : List Nat} (hp : p ≤ n) (h : sp_cla T n p = (some (w, d, l), p')) : (tc_cc (w, d, l)).length + p ≤ p' := by
  have hb := sp_cla_b hp h
  by_cases hw : w ≤ 1
  · rw [tc_cc, if_pos hw, List.length_append, List.length_map]
    show l.length + 1 + p ≤ p'
    rw [sp_cla] at h
    cases hh : sp_hd T n p with
    | mk b p1 =>
      cases b with
      | false => rw [hh] at h; cases h
      | true =>
        have h1 := sp_tw_b hp (show sp_tw T n (sp_lets (sp_wd T n p)) p = (true, p1) from hh)
        rw [hh] at h
        cases hn : sp_num T n p1 with
        | mk a p2 =>
          cases a with
          | none => simp only [hn] at h; cases h
          | some e =>
            have h2 := sp_num_b hn
            simp only [hn] at h
            by_cases h3 : 2 ≤ sp_wd T n p
            · rw [if_pos h3] at h; cases h; omega
            · rw [if_neg h3] at h
              by_cases h4 : sp_is T n p2 32
              · rw [if_pos h4] at h
                cases hE : sp_E T n (p2 + 1) with
                | mk u p3 =>
                  cases u with
                  | none => simp only [hE] at h; cases h
                  | some v =>
                    simp only [hE] at h
                    cases h
                    have := sp_E_d (by have := h4.1; omega) hE
                    omega
              · rw [if_neg h4] at h; cases h
  · rw [tc_cc, if_neg hw]
    show 0 + p ≤ p'
    omega
set_option maxRecDepth 4000 in
theorem l_Sc_compile_43 (hD : 23 ≤ D) (hX : ph_ok h0 c f) (hT : ph_tx f T n) {sz : Int32} : ∀ (q k p : Nat) (w : Int32 × Int32 × Int32) (os : List Int32), k + q = 10 → p ≤ n → os.length ≤ p → 1 ≤ k → (∀ cl p', sp_txt T n (q + 1) p = (some cl, p') → Q (some (.int (-1))) (PS h0 c n cc0 (cl.foldl wcl w) p' (os ++ tc_codes cl))) → (∀ p' w' os', sp_txt T n (q + 1) p = (none, p') → Q (some (.int (nI p'))) (PS h0 c n cc0 w' p' os')) → px_W G D 0 0 m_Sc_compile 43 [some (.ref c), some (.ref 42), some (.int sz), some (.int (nI k))] [] (PS h0 c n cc0 w p os) Q := by
  have hn := hT.1
  intro q
  induction q with
  | zero =>
    intro k p w os hkq hpn hos hk kt kf
    obtain rfl : k = 10 := hkq
    refine wp_iload_n d_Sc_compile_43 rfl rfl ?_
    refine wp_bipush (v := (nI 10)) d_Sc_compile_44 (by decide) ?_
    refine wp_icmp_gt (t := 100) d_Sc_compile_46 (by decide) (fun c_46 => absurd c_46 (by decide)) (fun c_46 => ?_)
    refine wp_aload_n d_Sc_compile_49 rfl rfl rfl ?_
    refine wp_callV (r := (R_3, T_3, 10)) (M' := m_Sc_readClause) (as := []) (D' := D - 1) (C1 := 0) (C2 := 0) (S1 := 0) (S2 := 0) d_Sc_compile_50 rfl w_518 w_520 w_3 (pz_c hX) k_Sc_readClause (Nat.le_of_ble_eq_true rfl) rfl (Nat.le_of_ble_eq_true rfl) (by omega) rfl rfl ?_
    refine c_Sc_readClause (by omega) hX hT hpn hos (fun cl p' hr => ?_) (fun p' os' hr => ?_)
    · skip
      have hb : p ≤ p' ∧ p' ≤ n ∧ (os ++ tc_cc cl).length ≤ p' := by
        obtain ⟨w1, d1, l1⟩ := cl
        have := sp_cla_b hpn hr
        refine ⟨this.1, this.2.1, ?_⟩
        have hlt := cc_len hpn hr
        rw [List.length_append]
        omega
      refine wp_if_ne (t := 61) d_Sc_compile_53 (by decide) (fun c_53 => ?_) (fun c_53 => (absurd c_53 (by decide)))
      refine wp_aload_n d_Sc_compile_61 rfl rfl rfl ?_
      refine wp_getf d_Sc_compile_62 gf_Sc_48_3 (pz_c hX) rfl ?_
      refine wp_aload_n d_Sc_compile_65 rfl rfl rfl ?_
      refine wp_getf d_Sc_compile_66 gf_Sc_45_3 (pz_c hX) rfl ?_
      refine wp_icmp_lt (t := 74) d_Sc_compile_69 (by decide) (fun c_69 => ?_) (fun c_69 => ?_)
      · skip
        have hne : ¬ p' = n := fun z => absurd c_69 (by rw [z]; exact Int32.not_lt.mpr (Int32.le_refl _))
        refine wp_iload_n d_Sc_compile_74 rfl rfl ?_
        refine wp_bipush (v := (nI 10)) d_Sc_compile_75 (by decide) ?_
        refine wp_icmp_eq (t := 89) d_Sc_compile_77 (by decide) (fun c_77 => ?_) (fun c_77 => absurd rfl c_77)
        refine wp_aload_n d_Sc_compile_89 rfl rfl rfl ?_
        refine wp_getf d_Sc_compile_90 gf_Sc_48_3 (pz_c hX) rfl ?_
        refine wp_ireturn d_Sc_compile_93 rfl rfl ?_
        have hz : 0 = 0 ∨ ¬ sp_is T n p' 59 := Or.inl rfl
        exact kf _ _ _ (by rw [sp_txt, hr]; simp only [if_neg hne, true_or, if_true])
      · skip
        refine wp_iconst (v := (-1)) d_Sc_compile_72 rfl ?_
        refine wp_ireturn d_Sc_compile_73 rfl rfl ?_
        have he : p' = n := by
          have : ¬ p' < n := fun z => c_69 (nI_lt z (by omega))
          omega
        have := kt [cl] p' (by rw [sp_txt, hr]; simp only [if_pos he])
        rw [show tc_codes [cl] = tc_cc cl ++ [] from rfl, List.append_nil] at this
        exact this
    · skip
      refine wp_if_ne (t := 61) d_Sc_compile_53 (by decide) (fun c_53 => (absurd c_53 (by decide))) (fun c_53 => ?_)
      refine wp_aload_n d_Sc_compile_56 rfl rfl rfl ?_
      refine wp_getf d_Sc_compile_57 gf_Sc_48_3 (pz_c hX) rfl ?_
      refine wp_ireturn d_Sc_compile_60 rfl rfl ?_
      exact kf _ _ _ (by rw [sp_txt, hr])
  | succ q ih =>
    intro k p w os hkq hpn hos hk kt kf
    refine wp_iload_n d_Sc_compile_43 rfl rfl ?_
    refine wp_bipush (v := (nI 10)) d_Sc_compile_44 (by decide) ?_
    refine wp_icmp_gt (t := 100) d_Sc_compile_46 (by decide) (fun c_46 => absurd c_46 (nI_nlt (show k ≤ 10 by omega) (by decide))) (fun c_46 => ?_)
    refine wp_aload_n d_Sc_compile_49 rfl rfl rfl ?_
    refine wp_callV (r := (R_3, T_3, 10)) (M' := m_Sc_readClause) (as := []) (D' := D - 1) (C1 := 0) (C2 := 0) (S1 := 0) (S2 := 0) d_Sc_compile_50 rfl w_518 w_520 w_3 (pz_c hX) k_Sc_readClause (Nat.le_of_ble_eq_true rfl) rfl (Nat.le_of_ble_eq_true rfl) (by omega) rfl rfl ?_
    refine c_Sc_readClause (by omega) hX hT hpn hos (fun cl p' hr => ?_) (fun p' os' hr => ?_)
    · skip
      have hb : p ≤ p' ∧ p' ≤ n ∧ (os ++ tc_cc cl).length ≤ p' := by
        obtain ⟨w1, d1, l1⟩ := cl
        have := sp_cla_b hpn hr
        refine ⟨this.1, this.2.1, ?_⟩
        have hlt := cc_len hpn hr
        rw [List.length_append]
        omega
      refine wp_if_ne (t := 61) d_Sc_compile_53 (by decide) (fun c_53 => ?_) (fun c_53 => (absurd c_53 (by decide)))
      refine wp_aload_n d_Sc_compile_61 rfl rfl rfl ?_
      refine wp_getf d_Sc_compile_62 gf_Sc_48_3 (pz_c hX) rfl ?_
      refine wp_aload_n d_Sc_compile_65 rfl rfl rfl ?_
      refine wp_getf d_Sc_compile_66 gf_Sc_45_3 (pz_c hX) rfl ?_
      refine wp_icmp_lt (t := 74) d_Sc_compile_69 (by decide) (fun c_69 => ?_) (fun c_69 => ?_)
      · skip
        have hne : ¬ p' = n := fun z => absurd c_69 (by rw [z]; exact Int32.not_lt.mpr (Int32.le_refl _))
        refine wp_iload_n d_Sc_compile_74 rfl rfl ?_
        refine wp_bipush (v := (nI 10)) d_Sc_compile_75 (by decide) ?_
        refine wp_icmp_eq (t := 89) d_Sc_compile_77 (by decide) (fun c_77 => ?_) (fun c_77 => ?_)
        · skip
          refine wp_aload_n d_Sc_compile_89 rfl rfl rfl ?_
          refine wp_getf d_Sc_compile_90 gf_Sc_48_3 (pz_c hX) rfl ?_
          refine wp_ireturn d_Sc_compile_93 rfl rfl ?_
          first
            | (have hz : q + 1 = 0 ∨ ¬ sp_is T n p' 59 := Or.inr hi
               exact kf _ _ _ (by rw [sp_txt, hr]; simp only [if_neg hne, if_pos hz]))
            | (have hz : q + 1 = 0 ∨ ¬ sp_is T n p' 59 := Or.inl (by have := (nI_eq (by omega) (by decide)).mp c_77; omega)
               exact kf _ _ _ (by rw [sp_txt, hr]; simp only [if_neg hne, if_pos hz]))
        · skip
          have hq0 : ¬ q + 1 = 0 := Nat.succ_ne_zero q
          refine wp_aload_n d_Sc_compile_80 rfl rfl rfl ?_
          refine wp_bipush (v := (nI 59)) d_Sc_compile_81 (by decide) ?_
          refine wp_callV (r := (R_3, T_3, 10)) (M' := m_Sc_passes) (as := [_]) (D' := D - 1) (C1 := 0) (C2 := 0) (S1 := 0) (S2 := 0) d_Sc_compile_83 rfl w_575 w_577 w_5 (pz_c hX) k_Sc_passes (Nat.le_of_ble_eq_true rfl) rfl (Nat.le_of_ble_eq_true rfl) (by omega) rfl rfl ?_
          refine c_Sc_passes (by omega) hX hT hb.2.1 (by decide) (fun hi => ?_) (fun hi => ?_)
          · skip
            have hlt := hi.1
            refine wp_if_ne (t := 94) d_Sc_compile_86 (by decide) (fun c_86 => ?_) (fun c_86 => (absurd c_86 (by decide)))
            refine wp_iinc (v := (nI (k + 1))) (ls' := [_, _, _, _]) d_Sc_compile_94 (by decide) rfl (nI_1 k) rfl ?_
            refine wp_goto (t := 43) d_Sc_compile_97 (by decide) ?_
            have hz : ¬ (q + 1 = 0 ∨ ¬ sp_is T n p' 59) := fun z => z.elim hq0 (fun y => y hi)
            exact ih (k + 1) (p' + 1) (wcl w cl) (os ++ tc_cc cl) (by omega) (by omega) (by omega) (by omega) (fun cs p2 h2 => by
              have := kt (cl :: cs) p2 (by rw [sp_txt, hr]; simp only [if_neg hne, if_neg hz, h2])
              rw [show tc_codes (cl :: cs) = tc_cc cl ++ tc_codes cs from rfl, ← List.append_assoc] at this
              exact this) (fun p2 w2 os2 h2 => kf _ _ _ (by rw [sp_txt, hr]; simp only [if_neg hne, if_neg hz, h2]))
          · skip
            refine wp_if_ne (t := 94) d_Sc_compile_86 (by decide) (fun c_86 => (absurd c_86 (by decide))) (fun c_86 => ?_)
            refine wp_aload_n d_Sc_compile_89 rfl rfl rfl ?_
            refine wp_getf d_Sc_compile_90 gf_Sc_48_3 (pz_c hX) rfl ?_
            refine wp_ireturn d_Sc_compile_93 rfl rfl ?_
            first
              | (have hz : q + 1 = 0 ∨ ¬ sp_is T n p' 59 := Or.inr hi
                 exact kf _ _ _ (by rw [sp_txt, hr]; simp only [if_neg hne, if_pos hz]))
              | (have hz : q + 1 = 0 ∨ ¬ sp_is T n p' 59 := Or.inl (by have := (nI_eq (by omega) (by decide)).mp c_77; omega)
                 exact kf _ _ _ (by rw [sp_txt, hr]; simp only [if_neg hne, if_pos hz]))
      · skip
        refine wp_iconst (v := (-1)) d_Sc_compile_72 rfl ?_
        refine wp_ireturn d_Sc_compile_73 rfl rfl ?_
        have he : p' = n := by
          have : ¬ p' < n := fun z => c_69 (nI_lt z (by omega))
          omega
        have := kt [cl] p' (by rw [sp_txt, hr]; simp only [if_pos he])
        rw [show tc_codes [cl] = tc_cc cl ++ [] from rfl, List.append_nil] at this
        exact this
    · skip
      refine wp_if_ne (t := 61) d_Sc_compile_53 (by decide) (fun c_53 => (absurd c_53 (by decide))) (fun c_53 => ?_)
      refine wp_aload_n d_Sc_compile_56 rfl rfl rfl ?_
      refine wp_getf d_Sc_compile_57 gf_Sc_48_3 (pz_c hX) rfl ?_
      refine wp_ireturn d_Sc_compile_60 rfl rfl ?_
      exact kf _ _ _ (by rw [sp_txt, hr])
theorem mn_s (n : Nat) (h : n ≤ 100) : (if nI 100 < nI n then nI 100 else nI n) = nI n := by
  rw [if_neg (nI_nlt h (by decide))]
set_option maxRecDepth 4000 in
theorem c_Sc_compile {fs : List Value} {n1 a0 a1 ri re pu : Int32} {tt : Nat} (hD : 23 ≤ D) (hX : ph_ok h0 c f) (hT : ph_tx f T n) (hc0 : h0[c]? = some (.inr (3, SCF c tt n1 a0 a1 ri re pu))) (hc1 : h0[c + 1]? = some (iA 100 cc0)) (kt : ∀ cl p', sp_txt T n 10 0 = (some cl, p') → Q (some (.int (-1))) (PS h0 c n cc0 (cl.foldl wcl (5, 3, 40)) p' ([] ++ tc_codes cl))) (kf : ∀ p' w' os', sp_txt T n 10 0 = (none, p') → Q (some (.int (nI p'))) (PS h0 c n cc0 w' p' os')) : px_W G D 0 0 m_Sc_compile 0 (px_ent 4 [.ref c, .ref 42, .int (nI n)]) [] h0 Q := by
  rw [pz_self hc0 hc1]
  show px_W _ _ _ _ _ _ [some (.ref c), some (.ref 42), some (.int (nI n)), none] [] _ _
  refine wp_aload_n d_Sc_compile_0 rfl rfl rfl ?_
  refine wp_aload_n d_Sc_compile_1 rfl rfl rfl ?_
  refine wp_putf d_Sc_compile_2 pgf_Sc_38_3 (pz_c hX) (Nat.le_of_ble_eq_true rfl) rfl rfl (pz_sc hX) ?_
  refine wp_aload_n d_Sc_compile_5 rfl rfl rfl ?_
  refine wp_iload_n d_Sc_compile_6 rfl rfl ?_
  refine wp_aload_n d_Sc_compile_7 rfl rfl rfl ?_
  refine wp_alen (t0 := 2) d_Sc_compile_8 (pz_42 hX) rfl (show Int32.ofNat 100 = nI 100 from rfl) ?_
  refine wp_min d_Sc_compile_9 w_451 (Nat.le_of_ble_eq_true rfl) (by omega) ?_
  rw [mn_s n hT.1]
  refine wp_putf d_Sc_compile_12 pgf_Sc_45_3 (pz_c hX) (Nat.le_of_ble_eq_true rfl) rfl rfl (pz_sc hX) ?_
  refine wp_aload_n d_Sc_compile_15 rfl rfl rfl ?_
  refine wp_iconst (v := (nI 0)) d_Sc_compile_16 rfl ?_
  refine wp_putf d_Sc_compile_17 pgf_Sc_48_3 (pz_c hX) (Nat.le_of_ble_eq_true rfl) rfl rfl (pz_sc hX) ?_
  refine wp_aload_n d_Sc_compile_20 rfl rfl rfl ?_
  refine wp_iconst (v := (nI 0)) d_Sc_compile_21 rfl ?_
  refine wp_putf d_Sc_compile_22 pgf_Sc_51_3 (pz_c hX) (Nat.le_of_ble_eq_true rfl) rfl rfl (pz_sc hX) ?_
  refine wp_aload_n d_Sc_compile_25 rfl rfl rfl ?_
  refine wp_iconst (v := 5) d_Sc_compile_26 rfl ?_
  refine wp_putf d_Sc_compile_27 pgf_Sc_18_3 (pz_c hX) (Nat.le_of_ble_eq_true rfl) rfl rfl (pz_sc hX) ?_
  refine wp_aload_n d_Sc_compile_30 rfl rfl rfl ?_
  refine wp_iconst (v := 3) d_Sc_compile_31 rfl ?_
  refine wp_putf d_Sc_compile_32 pgf_Sc_22_3 (pz_c hX) (Nat.le_of_ble_eq_true rfl) rfl rfl (pz_sc hX) ?_
  refine wp_aload_n d_Sc_compile_35 rfl rfl rfl ?_
  refine wp_bipush (v := 40) d_Sc_compile_36 (by decide) ?_
  refine wp_putf d_Sc_compile_38 pgf_Sc_25_3 (pz_c hX) (Nat.le_of_ble_eq_true rfl) rfl rfl (pz_sc hX) ?_
  refine wp_iconst (v := (nI 1)) d_Sc_compile_41 rfl ?_
  refine wp_istore_n (ls' := [_, _, _, _]) d_Sc_compile_42 rfl (by decide) rfl ?_
  exact l_Sc_compile_43 hD hX hT 9 1 0 (5, 3, 40) [] rfl (Nat.zero_le _) (Nat.le_refl _) (Nat.le_refl _) kt kf
end TPC
