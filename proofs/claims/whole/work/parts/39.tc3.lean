/-! THE CLASS'S SCAFFOLD: at the places c, c + 1 (codes), c + 2 (values), c + 3 (paces known) -/
abbrev SCF (c tt : Nat) (n0 a0 a1 ri re pu : Int32) : List Value := [.ref (c + 1), .ref (c + 2), .ref (c + 3), .ref tt, .int n0, .int a0, .int a1, .int ri, .int re, .int pu]
def fc (k v h : Int32) (n p : Nat) (f : Nat) : Int32 := if f = 0 then nI n else if f = 1 then k else if f = 2 then nI p else if f = 3 then h - h / 10 * 10 else if f = 4 then (if 99 < h / 10 then 99 else h / 10) else v
theorem fc_sp (kind v held : Nat → Int32) (m p : Nat) : sp_fact kind v held m p = fc (kind m) (v m) (held m) m p := rfl
def tc_wf (t : Nat) : Prop := t ≤ 6002 ∧ (t < 6000 → t / 100 % 10 ≤ 2)
def tc_enc (t : Nat) : Int32 := if t < 6000 then nI ((t / 1000 * 3 + t / 100 % 10) * 100 + t % 100) else if t = 6000 then -1 else if t = 6001 then -2 else -3
def tc_add (c : sp_Cl) : Int32 := if c.1 = 0 then -100 - nI c.2.1 else -300 - nI c.2.1
def tc_cc (c : sp_Cl) : List Int32 := if c.1 ≤ 1 then c.2.2.map tc_enc ++ [tc_add c] else []
def tc_codes : List sp_Cl → List Int32
  | [] => []
  | c :: cl => tc_cc c ++ tc_codes cl
def sp_okd (B : Nat) : List Nat → Nat → Prop
  | [], z => z ≤ B
  | t :: ts, z => z ≤ B ∧ sp_okd B ts (if t < 6000 then z + 1 else if t = 6000 then z else z - 1)
/-- a clause as the parser leaves it -/
def tc_gc (c : sp_Cl) : Prop := c.1 ≤ 4 ∧ c.2.1 < 100 ∧ (c.1 ≤ 1 → sp_dp c.2.2 0 = some 1 ∧ sp_okd 11 c.2.2 0 ∧ ∀ t, t ∈ c.2.2 → tc_wf t)
def tc_gd (cl : List sp_Cl) : Prop := cl.length ≤ 10 ∧ (tc_codes cl).length ≤ 100 ∧ ∀ c, c ∈ cl → tc_gc c
def be : List Bool → Nat
  | [] => 0
  | b :: s => (if b = true then 1 else 0) + 2 * be s
theorem be_lt : ∀ s : List Bool, be s < 2 ^ s.length
  | [] => by decide
  | b :: s => by
    have h := be_lt s
    have e : (b :: s).length = s.length + 1 := rfl
    rw [e, Nat.pow_succ, be]
    split <;> omega
theorem px_set_ne {h : px_H} {a q : Nat} {e x : px_E} (hq : a ≠ q) (he : h[q]? = some x) : (h.set a e)[q]? = some x := (List.getElem?_set_ne hq).trans he
theorem px_set_at {h : px_H} {a : Nat} {e x : px_E} (he : h[a]? = some x) : (h.set a e)[a]? = some e := List.getElem?_set_self (List.getElem?_eq_some_iff.mp he).1
theorem px_set_id {h : px_H} {a : Nat} {x : px_E} (he : h[a]? = some x) : h.set a x = h := by
  apply List.ext_getElem?
  intro i
  by_cases hi : a = i
  · subst hi; rw [px_set_at he, he]
  · rw [List.getElem?_set_ne hi]
theorem be_push : ∀ e, e < 2048 → ∀ b : Bool, (nI e <<< ((1 : Int32) &&& 31)) ||| bI b = nI ((if b = true then 1 else 0) + 2 * e) := by decide +kernel
theorem be_not : ∀ e, e < 2048 → ∀ b : Bool, nI ((if b = true then 1 else 0) + 2 * e) ^^^ 1 = nI ((if (!b) = true then 1 else 0) + 2 * e) := by decide +kernel
theorem be_and : ∀ e, e < 1024 → ∀ b a : Bool, (nI ((if b = true then 1 else 0) + 2 * ((if a = true then 1 else 0) + 2 * e)) >>> ((1 : Int32) &&& 31)) &&& (nI ((if b = true then 1 else 0) + 2 * ((if a = true then 1 else 0) + 2 * e)) ||| -2) = nI ((if (a && b) = true then 1 else 0) + 2 * e) := by decide +kernel
theorem be_or : ∀ e, e < 1024 → ∀ b a : Bool, (nI ((if b = true then 1 else 0) + 2 * ((if a = true then 1 else 0) + 2 * e)) >>> ((1 : Int32) &&& 31)) ||| (nI ((if b = true then 1 else 0) + 2 * ((if a = true then 1 else 0) + 2 * e)) &&& 1) = nI ((if (a || b) = true then 1 else 0) + 2 * e) := by decide +kernel
theorem be_mul (b : Bool) (x : Int32) : nI (be [b]) * x = (if b = true then x else 0) := by
  cases b with
  | false => exact Int32.zero_mul
  | true => exact Int32.one_mul x
theorem add_am : ∀ n, n < 100 → (-100 : Int32) - (-100 - nI n) = nI n ∧ ¬ (-100 - nI n ≤ (-300 : Int32)) ∧ (-300 - nI n ≤ (-300 : Int32)) ∧ (-300 - nI n) - (-300 : Int32) = -nI n := by decide +kernel
theorem add_lt : ∀ n, n < 100 → ((-100 - nI n < (0 : Int32)) ∧ (-100 - nI n ≠ (-1 : Int32)) ∧ (-100 - nI n ≠ (-2 : Int32)) ∧ (-100 - nI n ≠ (-3 : Int32))) ∧ ((-300 - nI n < (0 : Int32)) ∧ (-300 - nI n ≠ (-1 : Int32)) ∧ (-300 - nI n ≠ (-2 : Int32)) ∧ (-300 - nI n ≠ (-3 : Int32))) := by decide +kernel
section TCS
variable {G : px_G} {D : Nat} {h : px_H} {Q : Option Value → px_H → Prop}
set_option maxRecDepth 4000 in
theorem c_Sc_test {c tt : Nat} {n0 a0 a1 ri re pu : Int32} {t : Nat} {vv : Nat → Int32} (hD : 0 ≤ D) (he0 : h[c]? = some (.inr (3, (SCF c tt n0 a0 a1 ri re pu)))) (he2 : h[c + 2]? = some (iA 6 vv)) (ht : t < 6000) (hw : t / 100 % 10 ≤ 2) (k : Q (some (.int (bI (sp_tst vv t)))) h) : px_W G D 0 0 m_Sc_test 0 (px_ent 4 [.ref c, .int (nI ((t / 1000 * 3 + t / 100 % 10) * 100 + t % 100))]) [] h Q := by
  show px_W _ _ _ _ _ _ [some (.ref c), some (.int (nI ((t / 1000 * 3 + t / 100 % 10) * 100 + t % 100))), none, none] [] _ _
  refine wp_aload_n d_Sc_test_0 rfl rfl rfl ?_
  refine wp_getf d_Sc_test_1 gf_Sc_15_3 he0 rfl ?_
  refine wp_iload_n d_Sc_test_4 rfl rfl ?_
  refine wp_sipush (v := (nI 300)) d_Sc_test_5 (by decide) ?_
  refine wp_idiv d_Sc_test_8 (by decide) ?_
  refine wp_aload_n d_Sc_test_9 rfl rfl rfl ?_
  refine wp_getf d_Sc_test_10 gf_Sc_15_3 he0 rfl ?_
  refine wp_alen (t0 := 0) d_Sc_test_13 he2 rfl (show Int32.ofNat 6 = nI 6 from rfl) ?_
  refine wp_irem d_Sc_test_14 (by decide) ?_
  rw [show nI ((t / 1000 * 3 + t / 100 % 10) * 100 + t % 100) / nI 300 - nI ((t / 1000 * 3 + t / 100 % 10) * 100 + t % 100) / nI 300 / nI 6 * nI 6 = nI (t / 1000) from by rw [mo_div 300 (by omega) (by decide) (by decide), pk_rem (by omega) (by decide) (by decide)]; exact congrArg nI (by omega)]
  refine wp_iald d_Sc_test_15 he2 (vp_in_nI (by omega) (by decide)) ?_
  rw [nI_clamp (by omega)]
  refine wp_istore_n (ls' := [_, _, _, _]) d_Sc_test_16 rfl (by decide) rfl ?_
  refine wp_iload_n d_Sc_test_17 rfl rfl ?_
  refine wp_bipush (v := (nI 100)) d_Sc_test_18 (by decide) ?_
  refine wp_irem d_Sc_test_20 (by decide) ?_
  rw [show nI ((t / 1000 * 3 + t / 100 % 10) * 100 + t % 100) - nI ((t / 1000 * 3 + t / 100 % 10) * 100 + t % 100) / nI 100 * nI 100 = nI (t % 100) from by rw [pk_rem (by omega) (by decide) (by decide)]; exact congrArg nI (by omega)]
  refine wp_istore_n (ls' := [_, _, _, _]) d_Sc_test_21 rfl (by decide) rfl ?_
  refine wp_iload_n d_Sc_test_22 rfl rfl ?_
  refine wp_bipush (v := (nI 100)) d_Sc_test_23 (by decide) ?_
  refine wp_idiv d_Sc_test_25 (by decide) ?_
  refine wp_iconst (v := (nI 3)) d_Sc_test_26 rfl ?_
  refine wp_irem d_Sc_test_27 (by decide) ?_
  rw [show nI ((t / 1000 * 3 + t / 100 % 10) * 100 + t % 100) / nI 100 - nI ((t / 1000 * 3 + t / 100 % 10) * 100 + t % 100) / nI 100 / nI 3 * nI 3 = nI (t / 100 % 10) from by rw [mo_div 100 (by omega) (by decide) (by decide), pk_rem (by omega) (by decide) (by decide)]; exact congrArg nI (by omega)]
  refine wp_topi (fun y_28 e_28 => ?_)
  by_cases s_28_0 : y_28 = 0
  · rw [s_28_0]
    refine wp_lookup (off := 28) (t := 56) d_Sc_test_28 (by decide) (by decide) (by decide) ?_
    refine wp_iload_n d_Sc_test_56 rfl rfl ?_
    refine wp_iload_n d_Sc_test_57 rfl rfl ?_
    refine wp_icmp_ge (t := 65) d_Sc_test_58 (by decide) (fun c_58 => ?_) (fun c_58 => ?_)
    · skip
      refine wp_iconst (v := 0) d_Sc_test_65 rfl ?_
      refine wp_ireturn d_Sc_test_66 rfl rfl ?_
      have hb : t / 100 % 10 = 0 := (nI_eq (by omega) (by decide)).mp (e_28.symm.trans s_28_0)
      rw [sp_tst, if_pos hb] at k
      rw [decide_eq_false (Int32.not_lt.mpr c_58)] at k
      exact k
    · skip
      refine wp_iconst (v := 1) d_Sc_test_61 rfl ?_
      refine wp_goto (t := 66) d_Sc_test_62 (by decide) ?_
      refine wp_ireturn d_Sc_test_66 rfl rfl ?_
      have hb : t / 100 % 10 = 0 := (nI_eq (by omega) (by decide)).mp (e_28.symm.trans s_28_0)
      rw [sp_tst, if_pos hb] at k
      rw [decide_eq_true (Int32.not_le.mp c_58)] at k
      exact k
  by_cases s_28_1 : y_28 = 1
  · rw [s_28_1]
    refine wp_lookup (off := 39) (t := 67) d_Sc_test_28 (by decide) (by decide) (by decide) ?_
    refine wp_iload_n d_Sc_test_67 rfl rfl ?_
    refine wp_iload_n d_Sc_test_68 rfl rfl ?_
    refine wp_icmp_ne (t := 76) d_Sc_test_69 (by decide) (fun c_69 => ?_) (fun c_69 => ?_)
    · skip
      refine wp_iconst (v := 0) d_Sc_test_76 rfl ?_
      refine wp_ireturn d_Sc_test_77 rfl rfl ?_
      have hb : t / 100 % 10 = 1 := (nI_eq (by omega) (by decide)).mp (e_28.symm.trans s_28_1)
      rw [sp_tst, if_neg (by omega), if_pos hb] at k
      rw [decide_eq_false c_69] at k
      exact k
    · skip
      refine wp_iconst (v := 1) d_Sc_test_72 rfl ?_
      refine wp_goto (t := 77) d_Sc_test_73 (by decide) ?_
      refine wp_ireturn d_Sc_test_77 rfl rfl ?_
      have hb : t / 100 % 10 = 1 := (nI_eq (by omega) (by decide)).mp (e_28.symm.trans s_28_1)
      rw [sp_tst, if_neg (by omega), if_pos hb] at k
      rw [decide_eq_true c_69] at k
      exact k
  refine wp_lookup (off := 50) (t := 78) d_Sc_test_28 (by decide) (by refine (lv_osw s_28_0 rfl).trans ?_; refine (lv_osw s_28_1 rfl).trans ?_; rfl) (by decide) ?_
  refine wp_iload_n d_Sc_test_78 rfl rfl ?_
  refine wp_iload_n d_Sc_test_79 rfl rfl ?_
  refine wp_icmp_le (t := 87) d_Sc_test_80 (by decide) (fun c_80 => ?_) (fun c_80 => ?_)
  · skip
    refine wp_iconst (v := 0) d_Sc_test_87 rfl ?_
    refine wp_ireturn d_Sc_test_88 rfl rfl ?_
    have hb0 : ¬ t / 100 % 10 = 0 := fun z => s_28_0 (e_28.trans (by rw [z]; rfl))
    have hb1 : ¬ t / 100 % 10 = 1 := fun z => s_28_1 (e_28.trans (by rw [z]; rfl))
    rw [sp_tst, if_neg hb0, if_neg hb1] at k
    rw [decide_eq_false (Int32.not_lt.mpr c_80)] at k
    exact k
  · skip
    refine wp_iconst (v := 1) d_Sc_test_83 rfl ?_
    refine wp_goto (t := 88) d_Sc_test_84 (by decide) ?_
    refine wp_ireturn d_Sc_test_88 rfl rfl ?_
    have hb0 : ¬ t / 100 % 10 = 0 := fun z => s_28_0 (e_28.trans (by rw [z]; rfl))
    have hb1 : ¬ t / 100 % 10 = 1 := fun z => s_28_1 (e_28.trans (by rw [z]; rfl))
    rw [sp_tst, if_neg hb0, if_neg hb1] at k
    rw [decide_eq_true (Int32.not_le.mp c_80)] at k
    exact k
set_option maxRecDepth 4000 in
theorem rp_t {c tt : Nat} {n0 a0 a1 ri re pu : Int32} {m p hh i N : Nat} {acc : Int32} {cc vv : Nat → Int32} {t : Nat} {s : List Bool} (hD : 1 ≤ D) (he0 : h[c]? = some (.inr (3, (SCF c tt n0 a0 a1 ri re pu)))) (hn0 : n0 = nI N) (hN : N ≤ 100) (he1 : h[c + 1]? = some (iA 100 cc)) (he2 : h[c + 2]? = some (iA 6 vv)) (hi : i < N) (hc : cc i = nI ((t / 1000 * 3 + t / 100 % 10) * 100 + t % 100)) (ht : t < 6000) (hw : t / 100 % 10 ≤ 2) (hs : s.length ≤ 11) (k : px_W G D 0 0 m_Sc_reckonPace 72 [some (.ref c), some (.ref m), some (.int (nI p)), some (.int (nI hh)), some (.int acc), some (.int (nI (be (sp_tst vv t :: s)))), some (.int (nI (i + 1))), none, none] [] h Q) : px_W G D 0 0 m_Sc_reckonPace 72 [some (.ref c), some (.ref m), some (.int (nI p)), some (.int (nI hh)), some (.int acc), some (.int (nI (be s))), some (.int (nI i)), none, none] [] h Q := by
  refine wp_iload d_Sc_reckonPace_72 rfl ?_
  refine wp_aload_n d_Sc_reckonPace_74 rfl rfl rfl ?_
  refine wp_getf d_Sc_reckonPace_75 gf_Sc_51_3 he0 rfl ?_
  rw [hn0]
  refine wp_icmp_ge (t := 222) d_Sc_reckonPace_78 (by decide) (fun c_78 => absurd c_78 (nI_ge hi (by omega))) (fun c_78 => ?_)
  refine wp_iload d_Sc_reckonPace_81 rfl ?_
  refine wp_aload_n d_Sc_reckonPace_83 rfl rfl rfl ?_
  refine wp_getf d_Sc_reckonPace_84 gf_Sc_9_3 he0 rfl ?_
  refine wp_alen (t0 := 0) d_Sc_reckonPace_87 he1 rfl (show Int32.ofNat 100 = nI 100 from rfl) ?_
  refine wp_icmp_ge (t := 222) d_Sc_reckonPace_88 (by decide) (fun c_88 => absurd c_88 (nI_ge (show i < 100 by omega) (by decide))) (fun c_88 => ?_)
  refine wp_aload_n d_Sc_reckonPace_91 rfl rfl rfl ?_
  refine wp_getf d_Sc_reckonPace_92 gf_Sc_9_3 he0 rfl ?_
  refine wp_iload d_Sc_reckonPace_95 rfl ?_
  refine wp_iald d_Sc_reckonPace_97 he1 (vp_in_nI (show i < 100 by omega) (by decide)) ?_
  rw [nI_clamp (by omega), hc]
  refine wp_istore (ls' := [_, _, _, _, _, _, _, _, _]) d_Sc_reckonPace_98 (by decide) rfl ?_
  refine wp_iload d_Sc_reckonPace_100 rfl ?_
  refine wp_if_lt (t := 121) d_Sc_reckonPace_102 (by decide) (fun c_102 => absurd c_102 (nI_pos (by omega))) (fun c_102 => ?_)
  refine wp_iload d_Sc_reckonPace_105 rfl ?_
  refine wp_iconst (v := 1) d_Sc_reckonPace_107 rfl ?_
  refine wp_ishl d_Sc_reckonPace_108 ?_
  refine wp_aload_n d_Sc_reckonPace_109 rfl rfl rfl ?_
  refine wp_iload d_Sc_reckonPace_110 rfl ?_
  refine wp_callV (r := (R_3, T_3, 10)) (M' := m_Sc_test) (as := [_]) (D' := D - 1) (C1 := 0) (C2 := 0) (S1 := 0) (S2 := 0) d_Sc_reckonPace_112 rfl w_454 w_456 w_2 he0 k_Sc_test (Nat.le_of_ble_eq_true rfl) rfl (Nat.le_of_ble_eq_true rfl) (by omega) rfl rfl ?_
  refine c_Sc_test (by omega) he0 he2 ht hw ?_
  refine wp_ior d_Sc_reckonPace_115 ?_
  rw [be_push (be s) (Nat.lt_of_lt_of_le (be_lt s) (Nat.pow_le_pow_right (by decide) hs)) (sp_tst vv t)]
  refine wp_istore (ls' := [_, _, _, _, _, _, _, _, _]) d_Sc_reckonPace_116 (by decide) rfl ?_
  refine wp_goto (t := 216) d_Sc_reckonPace_118 (by decide) ?_
  refine wp_iinc (v := (nI (i + 1))) (ls' := [_, _, _, _, _, _, _, _, _]) d_Sc_reckonPace_216 (by decide) rfl (nI_1 i) rfl ?_
  refine wp_goto (t := 72) d_Sc_reckonPace_219 (by decide) ?_
  refine wp_less (ls' := [some (.ref c), some (.ref m), some (.int (nI p)), some (.int (nI hh)), some (.int acc), some (.int (nI (be (sp_tst vv t :: s)))), some (.int (nI (i + 1))), none, none]) ⟨rfl, rfl, rfl, rfl, rfl, rfl, rfl, trivial⟩ ?_
  exact k
set_option maxRecDepth 4000 in
theorem rp_n {c tt : Nat} {n0 a0 a1 ri re pu : Int32} {m p hh i N : Nat} {acc : Int32} {cc vv : Nat → Int32} {s : List Bool} {b : Bool} (hD : 1 ≤ D) (he0 : h[c]? = some (.inr (3, (SCF c tt n0 a0 a1 ri re pu)))) (hn0 : n0 = nI N) (hN : N ≤ 100) (he1 : h[c + 1]? = some (iA 100 cc)) (he2 : h[c + 2]? = some (iA 6 vv)) (hi : i < N) (hc : cc i = -1) (hs : s.length ≤ 10) (k : px_W G D 0 0 m_Sc_reckonPace 72 [some (.ref c), some (.ref m), some (.int (nI p)), some (.int (nI hh)), some (.int acc), some (.int (nI (be ((!b) :: s)))), some (.int (nI (i + 1))), none, none] [] h Q) : px_W G D 0 0 m_Sc_reckonPace 72 [some (.ref c), some (.ref m), some (.int (nI p)), some (.int (nI hh)), some (.int acc), some (.int (nI (be (b :: s)))), some (.int (nI i)), none, none] [] h Q := by
  refine wp_iload d_Sc_reckonPace_72 rfl ?_
  refine wp_aload_n d_Sc_reckonPace_74 rfl rfl rfl ?_
  refine wp_getf d_Sc_reckonPace_75 gf_Sc_51_3 he0 rfl ?_
  rw [hn0]
  refine wp_icmp_ge (t := 222) d_Sc_reckonPace_78 (by decide) (fun c_78 => absurd c_78 (nI_ge hi (by omega))) (fun c_78 => ?_)
  refine wp_iload d_Sc_reckonPace_81 rfl ?_
  refine wp_aload_n d_Sc_reckonPace_83 rfl rfl rfl ?_
  refine wp_getf d_Sc_reckonPace_84 gf_Sc_9_3 he0 rfl ?_
  refine wp_alen (t0 := 0) d_Sc_reckonPace_87 he1 rfl (show Int32.ofNat 100 = nI 100 from rfl) ?_
  refine wp_icmp_ge (t := 222) d_Sc_reckonPace_88 (by decide) (fun c_88 => absurd c_88 (nI_ge (show i < 100 by omega) (by decide))) (fun c_88 => ?_)
  refine wp_aload_n d_Sc_reckonPace_91 rfl rfl rfl ?_
  refine wp_getf d_Sc_reckonPace_92 gf_Sc_9_3 he0 rfl ?_
  refine wp_iload d_Sc_reckonPace_95 rfl ?_
  refine wp_iald d_Sc_reckonPace_97 he1 (vp_in_nI (show i < 100 by omega) (by decide)) ?_
  rw [nI_clamp (by omega), hc]
  refine wp_istore (ls' := [_, _, _, _, _, _, _, _, _]) d_Sc_reckonPace_98 (by decide) rfl ?_
  refine wp_iload d_Sc_reckonPace_100 rfl ?_
  refine wp_if_lt (t := 121) d_Sc_reckonPace_102 (by decide) (fun c_102 => ?_) (fun c_102 => (absurd c_102 (by decide)))
  refine wp_iload d_Sc_reckonPace_121 rfl ?_
  refine wp_iconst (v := (-1)) d_Sc_reckonPace_123 rfl ?_
  refine wp_icmp_ne (t := 136) d_Sc_reckonPace_124 (by decide) (fun c_124 => (absurd c_124 (by decide))) (fun c_124 => ?_)
  refine wp_iload d_Sc_reckonPace_127 rfl ?_
  refine wp_iconst (v := 1) d_Sc_reckonPace_129 rfl ?_
  refine wp_ixor d_Sc_reckonPace_130 ?_
  rw [show nI (be (b :: s)) ^^^ 1 = nI (be ((!b) :: s)) from be_not (be s) (Nat.lt_of_lt_of_le (be_lt s) (Nat.pow_le_pow_right (by decide) (by omega : s.length ≤ 11))) b]
  refine wp_istore (ls' := [_, _, _, _, _, _, _, _, _]) d_Sc_reckonPace_131 (by decide) rfl ?_
  refine wp_goto (t := 216) d_Sc_reckonPace_133 (by decide) ?_
  refine wp_iinc (v := (nI (i + 1))) (ls' := [_, _, _, _, _, _, _, _, _]) d_Sc_reckonPace_216 (by decide) rfl (nI_1 i) rfl ?_
  refine wp_goto (t := 72) d_Sc_reckonPace_219 (by decide) ?_
  refine wp_less (ls' := [some (.ref c), some (.ref m), some (.int (nI p)), some (.int (nI hh)), some (.int acc), some (.int (nI (be ((!b) :: s)))), some (.int (nI (i + 1))), none, none]) ⟨rfl, rfl, rfl, rfl, rfl, rfl, rfl, trivial⟩ ?_
  exact k
set_option maxRecDepth 4000 in
theorem rp_a {c tt : Nat} {n0 a0 a1 ri re pu : Int32} {m p hh i N : Nat} {acc : Int32} {cc vv : Nat → Int32} {s : List Bool} {a b : Bool} (hD : 1 ≤ D) (he0 : h[c]? = some (.inr (3, (SCF c tt n0 a0 a1 ri re pu)))) (hn0 : n0 = nI N) (hN : N ≤ 100) (he1 : h[c + 1]? = some (iA 100 cc)) (he2 : h[c + 2]? = some (iA 6 vv)) (hi : i < N) (hc : cc i = -2) (hs : s.length ≤ 9) (k : px_W G D 0 0 m_Sc_reckonPace 72 [some (.ref c), some (.ref m), some (.int (nI p)), some (.int (nI hh)), some (.int acc), some (.int (nI (be ((a && b) :: s)))), some (.int (nI (i + 1))), none, none] [] h Q) : px_W G D 0 0 m_Sc_reckonPace 72 [some (.ref c), some (.ref m), some (.int (nI p)), some (.int (nI hh)), some (.int acc), some (.int (nI (be (b :: a :: s)))), some (.int (nI i)), none, none] [] h Q := by
  refine wp_iload d_Sc_reckonPace_72 rfl ?_
  refine wp_aload_n d_Sc_reckonPace_74 rfl rfl rfl ?_
  refine wp_getf d_Sc_reckonPace_75 gf_Sc_51_3 he0 rfl ?_
  rw [hn0]
  refine wp_icmp_ge (t := 222) d_Sc_reckonPace_78 (by decide) (fun c_78 => absurd c_78 (nI_ge hi (by omega))) (fun c_78 => ?_)
  refine wp_iload d_Sc_reckonPace_81 rfl ?_
  refine wp_aload_n d_Sc_reckonPace_83 rfl rfl rfl ?_
  refine wp_getf d_Sc_reckonPace_84 gf_Sc_9_3 he0 rfl ?_
  refine wp_alen (t0 := 0) d_Sc_reckonPace_87 he1 rfl (show Int32.ofNat 100 = nI 100 from rfl) ?_
  refine wp_icmp_ge (t := 222) d_Sc_reckonPace_88 (by decide) (fun c_88 => absurd c_88 (nI_ge (show i < 100 by omega) (by decide))) (fun c_88 => ?_)
  refine wp_aload_n d_Sc_reckonPace_91 rfl rfl rfl ?_
  refine wp_getf d_Sc_reckonPace_92 gf_Sc_9_3 he0 rfl ?_
  refine wp_iload d_Sc_reckonPace_95 rfl ?_
  refine wp_iald d_Sc_reckonPace_97 he1 (vp_in_nI (show i < 100 by omega) (by decide)) ?_
  rw [nI_clamp (by omega), hc]
  refine wp_istore (ls' := [_, _, _, _, _, _, _, _, _]) d_Sc_reckonPace_98 (by decide) rfl ?_
  refine wp_iload d_Sc_reckonPace_100 rfl ?_
  refine wp_if_lt (t := 121) d_Sc_reckonPace_102 (by decide) (fun c_102 => ?_) (fun c_102 => (absurd c_102 (by decide)))
  refine wp_iload d_Sc_reckonPace_121 rfl ?_
  refine wp_iconst (v := (-1)) d_Sc_reckonPace_123 rfl ?_
  refine wp_icmp_ne (t := 136) d_Sc_reckonPace_124 (by decide) (fun c_124 => ?_) (fun c_124 => (absurd c_124 (by decide)))
  refine wp_iload d_Sc_reckonPace_136 rfl ?_
  refine wp_bipush (v := (-2)) d_Sc_reckonPace_138 (by decide) ?_
  refine wp_icmp_ne (t := 158) d_Sc_reckonPace_140 (by decide) (fun c_140 => (absurd c_140 (by decide))) (fun c_140 => ?_)
  refine wp_iload d_Sc_reckonPace_143 rfl ?_
  refine wp_iconst (v := 1) d_Sc_reckonPace_145 rfl ?_
  refine wp_ishr d_Sc_reckonPace_146 ?_
  refine wp_iload d_Sc_reckonPace_147 rfl ?_
  refine wp_bipush (v := (-2)) d_Sc_reckonPace_149 (by decide) ?_
  refine wp_ior d_Sc_reckonPace_151 ?_
  refine wp_iand d_Sc_reckonPace_152 ?_
  rw [show (nI (be (b :: a :: s)) >>> ((1 : Int32) &&& 31)) &&& (nI (be (b :: a :: s)) ||| -2) = nI (be ((a && b) :: s)) from be_and (be s) (Nat.lt_of_lt_of_le (be_lt s) (Nat.pow_le_pow_right (by decide) (by omega : s.length ≤ 10))) b a]
  refine wp_istore (ls' := [_, _, _, _, _, _, _, _, _]) d_Sc_reckonPace_153 (by decide) rfl ?_
  refine wp_goto (t := 216) d_Sc_reckonPace_155 (by decide) ?_
  refine wp_iinc (v := (nI (i + 1))) (ls' := [_, _, _, _, _, _, _, _, _]) d_Sc_reckonPace_216 (by decide) rfl (nI_1 i) rfl ?_
  refine wp_goto (t := 72) d_Sc_reckonPace_219 (by decide) ?_
  refine wp_less (ls' := [some (.ref c), some (.ref m), some (.int (nI p)), some (.int (nI hh)), some (.int acc), some (.int (nI (be ((a && b) :: s)))), some (.int (nI (i + 1))), none, none]) ⟨rfl, rfl, rfl, rfl, rfl, rfl, rfl, trivial⟩ ?_
  exact k
set_option maxRecDepth 4000 in
theorem rp_o {c tt : Nat} {n0 a0 a1 ri re pu : Int32} {m p hh i N : Nat} {acc : Int32} {cc vv : Nat → Int32} {s : List Bool} {a b : Bool} (hD : 1 ≤ D) (he0 : h[c]? = some (.inr (3, (SCF c tt n0 a0 a1 ri re pu)))) (hn0 : n0 = nI N) (hN : N ≤ 100) (he1 : h[c + 1]? = some (iA 100 cc)) (he2 : h[c + 2]? = some (iA 6 vv)) (hi : i < N) (hc : cc i = -3) (hs : s.length ≤ 9) (k : px_W G D 0 0 m_Sc_reckonPace 72 [some (.ref c), some (.ref m), some (.int (nI p)), some (.int (nI hh)), some (.int acc), some (.int (nI (be ((a || b) :: s)))), some (.int (nI (i + 1))), none, none] [] h Q) : px_W G D 0 0 m_Sc_reckonPace 72 [some (.ref c), some (.ref m), some (.int (nI p)), some (.int (nI hh)), some (.int acc), some (.int (nI (be (b :: a :: s)))), some (.int (nI i)), none, none] [] h Q := by
  refine wp_iload d_Sc_reckonPace_72 rfl ?_
  refine wp_aload_n d_Sc_reckonPace_74 rfl rfl rfl ?_
  refine wp_getf d_Sc_reckonPace_75 gf_Sc_51_3 he0 rfl ?_
  rw [hn0]
  refine wp_icmp_ge (t := 222) d_Sc_reckonPace_78 (by decide) (fun c_78 => absurd c_78 (nI_ge hi (by omega))) (fun c_78 => ?_)
  refine wp_iload d_Sc_reckonPace_81 rfl ?_
  refine wp_aload_n d_Sc_reckonPace_83 rfl rfl rfl ?_
  refine wp_getf d_Sc_reckonPace_84 gf_Sc_9_3 he0 rfl ?_
  refine wp_alen (t0 := 0) d_Sc_reckonPace_87 he1 rfl (show Int32.ofNat 100 = nI 100 from rfl) ?_
  refine wp_icmp_ge (t := 222) d_Sc_reckonPace_88 (by decide) (fun c_88 => absurd c_88 (nI_ge (show i < 100 by omega) (by decide))) (fun c_88 => ?_)
  refine wp_aload_n d_Sc_reckonPace_91 rfl rfl rfl ?_
  refine wp_getf d_Sc_reckonPace_92 gf_Sc_9_3 he0 rfl ?_
  refine wp_iload d_Sc_reckonPace_95 rfl ?_
  refine wp_iald d_Sc_reckonPace_97 he1 (vp_in_nI (show i < 100 by omega) (by decide)) ?_
  rw [nI_clamp (by omega), hc]
  refine wp_istore (ls' := [_, _, _, _, _, _, _, _, _]) d_Sc_reckonPace_98 (by decide) rfl ?_
  refine wp_iload d_Sc_reckonPace_100 rfl ?_
  refine wp_if_lt (t := 121) d_Sc_reckonPace_102 (by decide) (fun c_102 => ?_) (fun c_102 => (absurd c_102 (by decide)))
  refine wp_iload d_Sc_reckonPace_121 rfl ?_
  refine wp_iconst (v := (-1)) d_Sc_reckonPace_123 rfl ?_
  refine wp_icmp_ne (t := 136) d_Sc_reckonPace_124 (by decide) (fun c_124 => ?_) (fun c_124 => (absurd c_124 (by decide)))
  refine wp_iload d_Sc_reckonPace_136 rfl ?_
  refine wp_bipush (v := (-2)) d_Sc_reckonPace_138 (by decide) ?_
  refine wp_icmp_ne (t := 158) d_Sc_reckonPace_140 (by decide) (fun c_140 => ?_) (fun c_140 => (absurd c_140 (by decide)))
  refine wp_iload d_Sc_reckonPace_158 rfl ?_
  refine wp_bipush (v := (-3)) d_Sc_reckonPace_160 (by decide) ?_
  refine wp_icmp_ne (t := 179) d_Sc_reckonPace_162 (by decide) (fun c_162 => (absurd c_162 (by decide))) (fun c_162 => ?_)
  refine wp_iload d_Sc_reckonPace_165 rfl ?_
  refine wp_iconst (v := 1) d_Sc_reckonPace_167 rfl ?_
  refine wp_ishr d_Sc_reckonPace_168 ?_
  refine wp_iload d_Sc_reckonPace_169 rfl ?_
  refine wp_iconst (v := 1) d_Sc_reckonPace_171 rfl ?_
  refine wp_iand d_Sc_reckonPace_172 ?_
  refine wp_ior d_Sc_reckonPace_173 ?_
  rw [show (nI (be (b :: a :: s)) >>> ((1 : Int32) &&& 31)) ||| (nI (be (b :: a :: s)) &&& 1) = nI (be ((a || b) :: s)) from be_or (be s) (Nat.lt_of_lt_of_le (be_lt s) (Nat.pow_le_pow_right (by decide) (by omega : s.length ≤ 10))) b a]
  refine wp_istore (ls' := [_, _, _, _, _, _, _, _, _]) d_Sc_reckonPace_174 (by decide) rfl ?_
  refine wp_goto (t := 216) d_Sc_reckonPace_176 (by decide) ?_
  refine wp_iinc (v := (nI (i + 1))) (ls' := [_, _, _, _, _, _, _, _, _]) d_Sc_reckonPace_216 (by decide) rfl (nI_1 i) rfl ?_
  refine wp_goto (t := 72) d_Sc_reckonPace_219 (by decide) ?_
  refine wp_less (ls' := [some (.ref c), some (.ref m), some (.int (nI p)), some (.int (nI hh)), some (.int acc), some (.int (nI (be ((a || b) :: s)))), some (.int (nI (i + 1))), none, none]) ⟨rfl, rfl, rfl, rfl, rfl, rfl, rfl, trivial⟩ ?_
  exact k
set_option maxRecDepth 4000 in
theorem rp_s {c tt : Nat} {n0 a0 a1 ri re pu : Int32} {m p hh i N : Nat} {acc : Int32} {cc vv : Nat → Int32} {d : Nat} {b : Bool} (hD : 1 ≤ D) (he0 : h[c]? = some (.inr (3, (SCF c tt n0 a0 a1 ri re pu)))) (hn0 : n0 = nI N) (hN : N ≤ 100) (he1 : h[c + 1]? = some (iA 100 cc)) (he2 : h[c + 2]? = some (iA 6 vv)) (hi : i < N) (hc : cc i = -100 - nI d) (hd : d < 100) (k : px_W G D 0 0 m_Sc_reckonPace 72 [some (.ref c), some (.ref m), some (.int (nI p)), some (.int (nI hh)), some (.int (acc + (if b = true then nI d else 0))), some (.int (nI 0)), some (.int (nI (i + 1))), none, none] [] h Q) : px_W G D 0 0 m_Sc_reckonPace 72 [some (.ref c), some (.ref m), some (.int (nI p)), some (.int (nI hh)), some (.int acc), some (.int (nI (be [b]))), some (.int (nI i)), none, none] [] h Q := by
  obtain ⟨⟨l1, l2, l3, l4⟩, ⟨g1, g2, g3, g4⟩⟩ := add_lt d hd
  obtain ⟨am1, am2, am3, am4⟩ := add_am d hd
  refine wp_iload d_Sc_reckonPace_72 rfl ?_
  refine wp_aload_n d_Sc_reckonPace_74 rfl rfl rfl ?_
  refine wp_getf d_Sc_reckonPace_75 gf_Sc_51_3 he0 rfl ?_
  rw [hn0]
  refine wp_icmp_ge (t := 222) d_Sc_reckonPace_78 (by decide) (fun c_78 => absurd c_78 (nI_ge hi (by omega))) (fun c_78 => ?_)
  refine wp_iload d_Sc_reckonPace_81 rfl ?_
  refine wp_aload_n d_Sc_reckonPace_83 rfl rfl rfl ?_
  refine wp_getf d_Sc_reckonPace_84 gf_Sc_9_3 he0 rfl ?_
  refine wp_alen (t0 := 0) d_Sc_reckonPace_87 he1 rfl (show Int32.ofNat 100 = nI 100 from rfl) ?_
  refine wp_icmp_ge (t := 222) d_Sc_reckonPace_88 (by decide) (fun c_88 => absurd c_88 (nI_ge (show i < 100 by omega) (by decide))) (fun c_88 => ?_)
  refine wp_aload_n d_Sc_reckonPace_91 rfl rfl rfl ?_
  refine wp_getf d_Sc_reckonPace_92 gf_Sc_9_3 he0 rfl ?_
  refine wp_iload d_Sc_reckonPace_95 rfl ?_
  refine wp_iald d_Sc_reckonPace_97 he1 (vp_in_nI (show i < 100 by omega) (by decide)) ?_
  rw [nI_clamp (by omega), hc]
  refine wp_istore (ls' := [_, _, _, _, _, _, _, _, _]) d_Sc_reckonPace_98 (by decide) rfl ?_
  refine wp_iload d_Sc_reckonPace_100 rfl ?_
  refine wp_if_lt (t := 121) d_Sc_reckonPace_102 (by decide) (fun c_102 => ?_) (fun c_102 => absurd l1 c_102)
  refine wp_iload d_Sc_reckonPace_121 rfl ?_
  refine wp_iconst (v := (-1)) d_Sc_reckonPace_123 rfl ?_
  refine wp_icmp_ne (t := 136) d_Sc_reckonPace_124 (by decide) (fun c_124 => ?_) (fun c_124 => absurd c_124 l2)
  refine wp_iload d_Sc_reckonPace_136 rfl ?_
  refine wp_bipush (v := (-2)) d_Sc_reckonPace_138 (by decide) ?_
  refine wp_icmp_ne (t := 158) d_Sc_reckonPace_140 (by decide) (fun c_140 => ?_) (fun c_140 => absurd c_140 l3)
  refine wp_iload d_Sc_reckonPace_158 rfl ?_
  refine wp_bipush (v := (-3)) d_Sc_reckonPace_160 (by decide) ?_
  refine wp_icmp_ne (t := 179) d_Sc_reckonPace_162 (by decide) (fun c_162 => ?_) (fun c_162 => absurd c_162 l4)
  refine wp_iload d_Sc_reckonPace_179 rfl ?_
  refine wp_sipush (v := (-300)) d_Sc_reckonPace_181 (by decide) ?_
  refine wp_icmp_le (t := 195) d_Sc_reckonPace_184 (by decide) (fun c_184 => absurd c_184 am2) (fun c_184 => ?_)
  refine wp_bipush (v := (-100)) d_Sc_reckonPace_187 (by decide) ?_
  refine wp_iload d_Sc_reckonPace_189 rfl ?_
  refine wp_isub d_Sc_reckonPace_191 ?_
  refine wp_goto (t := 201) d_Sc_reckonPace_192 (by decide) ?_
  refine wp_istore (ls' := [_, _, _, _, _, _, _, _, _]) d_Sc_reckonPace_201 (by decide) rfl ?_
  refine wp_iload d_Sc_reckonPace_203 rfl ?_
  refine wp_iload d_Sc_reckonPace_205 rfl ?_
  refine wp_iload d_Sc_reckonPace_207 rfl ?_
  refine wp_imul d_Sc_reckonPace_209 ?_
  refine wp_iadd d_Sc_reckonPace_210 ?_
  rw [am1]
  rw [be_mul]
  refine wp_istore (ls' := [_, _, _, _, _, _, _, _, _]) d_Sc_reckonPace_211 (by decide) rfl ?_
  refine wp_iconst (v := (nI 0)) d_Sc_reckonPace_213 rfl ?_
  refine wp_istore (ls' := [_, _, _, _, _, _, _, _, _]) d_Sc_reckonPace_214 (by decide) rfl ?_
  refine wp_iinc (v := (nI (i + 1))) (ls' := [_, _, _, _, _, _, _, _, _]) d_Sc_reckonPace_216 (by decide) rfl (nI_1 i) rfl ?_
  refine wp_goto (t := 72) d_Sc_reckonPace_219 (by decide) ?_
  refine wp_less (ls' := [some (.ref c), some (.ref m), some (.int (nI p)), some (.int (nI hh)), some (.int (acc + (if b = true then nI d else 0))), some (.int (nI 0)), some (.int (nI (i + 1))), none, none]) ⟨rfl, rfl, rfl, rfl, rfl, rfl, rfl, trivial⟩ ?_
  exact k
set_option maxRecDepth 4000 in
theorem rp_q {c tt : Nat} {n0 a0 a1 ri re pu : Int32} {m p hh i N : Nat} {acc : Int32} {cc vv : Nat → Int32} {d : Nat} {b : Bool} (hD : 1 ≤ D) (he0 : h[c]? = some (.inr (3, (SCF c tt n0 a0 a1 ri re pu)))) (hn0 : n0 = nI N) (hN : N ≤ 100) (he1 : h[c + 1]? = some (iA 100 cc)) (he2 : h[c + 2]? = some (iA 6 vv)) (hi : i < N) (hc : cc i = -300 - nI d) (hd : d < 100) (k : px_W G D 0 0 m_Sc_reckonPace 72 [some (.ref c), some (.ref m), some (.int (nI p)), some (.int (nI hh)), some (.int (acc + (if b = true then -nI d else 0))), some (.int (nI 0)), some (.int (nI (i + 1))), none, none] [] h Q) : px_W G D 0 0 m_Sc_reckonPace 72 [some (.ref c), some (.ref m), some (.int (nI p)), some (.int (nI hh)), some (.int acc), some (.int (nI (be [b]))), some (.int (nI i)), none, none] [] h Q := by
  obtain ⟨⟨l1, l2, l3, l4⟩, ⟨g1, g2, g3, g4⟩⟩ := add_lt d hd
  obtain ⟨am1, am2, am3, am4⟩ := add_am d hd
  refine wp_iload d_Sc_reckonPace_72 rfl ?_
  refine wp_aload_n d_Sc_reckonPace_74 rfl rfl rfl ?_
  refine wp_getf d_Sc_reckonPace_75 gf_Sc_51_3 he0 rfl ?_
  rw [hn0]
  refine wp_icmp_ge (t := 222) d_Sc_reckonPace_78 (by decide) (fun c_78 => absurd c_78 (nI_ge hi (by omega))) (fun c_78 => ?_)
  refine wp_iload d_Sc_reckonPace_81 rfl ?_
  refine wp_aload_n d_Sc_reckonPace_83 rfl rfl rfl ?_
  refine wp_getf d_Sc_reckonPace_84 gf_Sc_9_3 he0 rfl ?_
  refine wp_alen (t0 := 0) d_Sc_reckonPace_87 he1 rfl (show Int32.ofNat 100 = nI 100 from rfl) ?_
  refine wp_icmp_ge (t := 222) d_Sc_reckonPace_88 (by decide) (fun c_88 => absurd c_88 (nI_ge (show i < 100 by omega) (by decide))) (fun c_88 => ?_)
  refine wp_aload_n d_Sc_reckonPace_91 rfl rfl rfl ?_
  refine wp_getf d_Sc_reckonPace_92 gf_Sc_9_3 he0 rfl ?_
  refine wp_iload d_Sc_reckonPace_95 rfl ?_
  refine wp_iald d_Sc_reckonPace_97 he1 (vp_in_nI (show i < 100 by omega) (by decide)) ?_
  rw [nI_clamp (by omega), hc]
  refine wp_istore (ls' := [_, _, _, _, _, _, _, _, _]) d_Sc_reckonPace_98 (by decide) rfl ?_
  refine wp_iload d_Sc_reckonPace_100 rfl ?_
  refine wp_if_lt (t := 121) d_Sc_reckonPace_102 (by decide) (fun c_102 => ?_) (fun c_102 => absurd g1 c_102)
  refine wp_iload d_Sc_reckonPace_121 rfl ?_
  refine wp_iconst (v := (-1)) d_Sc_reckonPace_123 rfl ?_
  refine wp_icmp_ne (t := 136) d_Sc_reckonPace_124 (by decide) (fun c_124 => ?_) (fun c_124 => absurd c_124 g2)
  refine wp_iload d_Sc_reckonPace_136 rfl ?_
  refine wp_bipush (v := (-2)) d_Sc_reckonPace_138 (by decide) ?_
  refine wp_icmp_ne (t := 158) d_Sc_reckonPace_140 (by decide) (fun c_140 => ?_) (fun c_140 => absurd c_140 g3)
  refine wp_iload d_Sc_reckonPace_158 rfl ?_
  refine wp_bipush (v := (-3)) d_Sc_reckonPace_160 (by decide) ?_
  refine wp_icmp_ne (t := 179) d_Sc_reckonPace_162 (by decide) (fun c_162 => ?_) (fun c_162 => absurd c_162 g4)
  refine wp_iload d_Sc_reckonPace_179 rfl ?_
  refine wp_sipush (v := (-300)) d_Sc_reckonPace_181 (by decide) ?_
  refine wp_icmp_le (t := 195) d_Sc_reckonPace_184 (by decide) (fun c_184 => ?_) (fun c_184 => absurd am3 c_184)
  refine wp_iload d_Sc_reckonPace_195 rfl ?_
  refine wp_sipush (v := (-300)) d_Sc_reckonPace_197 (by decide) ?_
  refine wp_isub d_Sc_reckonPace_200 ?_
  refine wp_istore (ls' := [_, _, _, _, _, _, _, _, _]) d_Sc_reckonPace_201 (by decide) rfl ?_
  refine wp_iload d_Sc_reckonPace_203 rfl ?_
  refine wp_iload d_Sc_reckonPace_205 rfl ?_
  refine wp_iload d_Sc_reckonPace_207 rfl ?_
  refine wp_imul d_Sc_reckonPace_209 ?_
  refine wp_iadd d_Sc_reckonPace_210 ?_
  rw [am4]
  rw [be_mul]
  refine wp_istore (ls' := [_, _, _, _, _, _, _, _, _]) d_Sc_reckonPace_211 (by decide) rfl ?_
  refine wp_iconst (v := (nI 0)) d_Sc_reckonPace_213 rfl ?_
  refine wp_istore (ls' := [_, _, _, _, _, _, _, _, _]) d_Sc_reckonPace_214 (by decide) rfl ?_
  refine wp_iinc (v := (nI (i + 1))) (ls' := [_, _, _, _, _, _, _, _, _]) d_Sc_reckonPace_216 (by decide) rfl (nI_1 i) rfl ?_
  refine wp_goto (t := 72) d_Sc_reckonPace_219 (by decide) ?_
  refine wp_less (ls' := [some (.ref c), some (.ref m), some (.int (nI p)), some (.int (nI hh)), some (.int (acc + (if b = true then -nI d else 0))), some (.int (nI 0)), some (.int (nI (i + 1))), none, none]) ⟨rfl, rfl, rfl, rfl, rfl, rfl, rfl, trivial⟩ ?_
  exact k
end TCS
