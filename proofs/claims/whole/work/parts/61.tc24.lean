section TDN
variable {G : px_G} {D : Nat} {K K1 : tc_K} {MZ h : px_H} {r r1 : tc_r} {Q : Option Value → px_H → Prop} {mn : tc_mn} {sc : tc_sc} {B : Nat} {S : sp_St} {t0 : Int32} {hl fr : Nat → Int32}
set_option maxRecDepth 4000 in
theorem l_TC_taken_0 {m x : Int32} (kk : (x = 0 ∨ (0 : Int32) = x ∨ (x = 1 ∧ (0 : Int32) = 4) ∨ (x = 2 ∧ (0 : Int32) = 5) ∨ (x = 3 ∧ (0 : Int32) = 6)) → Q (some (.int 0)) (HT K MZ r)) (kc : ¬ (x = 0 ∨ (0 : Int32) = x ∨ (x = 1 ∧ (0 : Int32) = 4) ∨ (x = 2 ∧ (0 : Int32) = 5) ∨ (x = 3 ∧ (0 : Int32) = 6)) → Q (some (.int (-12))) (HT K MZ r)) : px_W G D 0 0 m_TC_taken 45 [some (.ref 0), some (.int m), some (.int x), some (.int 0), some (.int 0), some (.int 0)] [] (HT K MZ r) Q := by
  refine wp_iload d_TC_taken_45 rfl ?_
  refine wp_getABOVE d_TC_taken_47 w_333 ?_
  refine wp_abovelen d_TC_taken_50 ?_
  refine wp_icmp_ge (t := 90) d_TC_taken_51 (by decide) (fun c_51 => (absurd c_51 (by decide))) (fun c_51 => ?_)
  refine wp_iload d_TC_taken_54 rfl ?_
  refine wp_if_lt (t := 90) d_TC_taken_56 (by decide) (fun c_56 => (absurd c_56 (by decide))) (fun c_56 => ?_)
  refine wp_iload d_TC_taken_59 rfl ?_
  refine wp_getABOVE d_TC_taken_61 w_333 ?_
  refine wp_abovelen d_TC_taken_64 ?_
  refine wp_icmp_ge (t := 90) d_TC_taken_65 (by decide) (fun c_65 => (absurd c_65 (by decide))) (fun c_65 => ?_)
  refine wp_iload d_TC_taken_68 rfl ?_
  refine wp_iload_n d_TC_taken_70 rfl rfl ?_
  refine wp_icmp_ne (t := 76) d_TC_taken_71 (by decide) (fun c71_0 => ?_) (fun c71_0 => ?_)
  · skip
    refine wp_getABOVE d_TC_taken_76 w_333 ?_
    refine wp_iload d_TC_taken_79 rfl ?_
    refine wp_aboveld d_TC_taken_81 (vp_in_nI (n := 0) (by decide) (by decide)) ?_
    rw [show px_above (0 : Int32).toNatClampNeg = (-1) from rfl]
    refine wp_istore (ls' := [_, _, _, _, _, _]) d_TC_taken_82 (by decide) rfl ?_
    refine wp_iinc (v := 1) (ls' := [_, _, _, _, _, _]) d_TC_taken_84 (by decide) rfl rfl rfl ?_
    refine wp_goto (t := 45) d_TC_taken_87 (by decide) ?_
    refine wp_iload d_TC_taken_45 rfl ?_
    refine wp_getABOVE d_TC_taken_47 w_333 ?_
    refine wp_abovelen d_TC_taken_50 ?_
    refine wp_icmp_ge (t := 90) d_TC_taken_51 (by decide) (fun c_51 => (absurd c_51 (by decide))) (fun c_51 => ?_)
    refine wp_iload d_TC_taken_54 rfl ?_
    refine wp_if_lt (t := 90) d_TC_taken_56 (by decide) (fun c_56 => ?_) (fun c_56 => (absurd c_56 (by decide)))
    refine wp_bipush (v := (-12)) d_TC_taken_90 (by decide) ?_
    refine wp_ireturn d_TC_taken_92 rfl rfl ?_
    exact kc (fun z => by
      rcases z with z | z | ⟨z, h⟩ | ⟨z, h⟩ | ⟨z, h⟩ <;> first | exact absurd h (by decide) | (subst z; first | exact absurd rfl c71_0))
  · skip
    refine wp_iload_n d_TC_taken_74 rfl rfl ?_
    refine wp_ireturn d_TC_taken_75 rfl rfl ?_
    have e : x = 0 := c71_0.symm
    subst e
    exact kk (by decide)
set_option maxRecDepth 4000 in
theorem l_TC_taken_1 {m x : Int32} (kk : (x = 0 ∨ (1 : Int32) = x ∨ (x = 1 ∧ (1 : Int32) = 4) ∨ (x = 2 ∧ (1 : Int32) = 5) ∨ (x = 3 ∧ (1 : Int32) = 6)) → Q (some (.int 1)) (HT K MZ r)) (kc : ¬ (x = 0 ∨ (1 : Int32) = x ∨ (x = 1 ∧ (1 : Int32) = 4) ∨ (x = 2 ∧ (1 : Int32) = 5) ∨ (x = 3 ∧ (1 : Int32) = 6)) → Q (some (.int (-12))) (HT K MZ r)) : px_W G D 0 0 m_TC_taken 45 [some (.ref 0), some (.int m), some (.int x), some (.int 1), some (.int 1), some (.int 0)] [] (HT K MZ r) Q := by
  refine wp_iload d_TC_taken_45 rfl ?_
  refine wp_getABOVE d_TC_taken_47 w_333 ?_
  refine wp_abovelen d_TC_taken_50 ?_
  refine wp_icmp_ge (t := 90) d_TC_taken_51 (by decide) (fun c_51 => (absurd c_51 (by decide))) (fun c_51 => ?_)
  refine wp_iload d_TC_taken_54 rfl ?_
  refine wp_if_lt (t := 90) d_TC_taken_56 (by decide) (fun c_56 => (absurd c_56 (by decide))) (fun c_56 => ?_)
  refine wp_iload d_TC_taken_59 rfl ?_
  refine wp_getABOVE d_TC_taken_61 w_333 ?_
  refine wp_abovelen d_TC_taken_64 ?_
  refine wp_icmp_ge (t := 90) d_TC_taken_65 (by decide) (fun c_65 => (absurd c_65 (by decide))) (fun c_65 => ?_)
  refine wp_iload d_TC_taken_68 rfl ?_
  refine wp_iload_n d_TC_taken_70 rfl rfl ?_
  refine wp_icmp_ne (t := 76) d_TC_taken_71 (by decide) (fun c71_0 => ?_) (fun c71_0 => ?_)
  · skip
    refine wp_getABOVE d_TC_taken_76 w_333 ?_
    refine wp_iload d_TC_taken_79 rfl ?_
    refine wp_aboveld d_TC_taken_81 (vp_in_nI (n := 1) (by decide) (by decide)) ?_
    rw [show px_above (1 : Int32).toNatClampNeg = 0 from rfl]
    refine wp_istore (ls' := [_, _, _, _, _, _]) d_TC_taken_82 (by decide) rfl ?_
    refine wp_iinc (v := 1) (ls' := [_, _, _, _, _, _]) d_TC_taken_84 (by decide) rfl rfl rfl ?_
    refine wp_goto (t := 45) d_TC_taken_87 (by decide) ?_
    refine wp_iload d_TC_taken_45 rfl ?_
    refine wp_getABOVE d_TC_taken_47 w_333 ?_
    refine wp_abovelen d_TC_taken_50 ?_
    refine wp_icmp_ge (t := 90) d_TC_taken_51 (by decide) (fun c_51 => (absurd c_51 (by decide))) (fun c_51 => ?_)
    refine wp_iload d_TC_taken_54 rfl ?_
    refine wp_if_lt (t := 90) d_TC_taken_56 (by decide) (fun c_56 => (absurd c_56 (by decide))) (fun c_56 => ?_)
    refine wp_iload d_TC_taken_59 rfl ?_
    refine wp_getABOVE d_TC_taken_61 w_333 ?_
    refine wp_abovelen d_TC_taken_64 ?_
    refine wp_icmp_ge (t := 90) d_TC_taken_65 (by decide) (fun c_65 => (absurd c_65 (by decide))) (fun c_65 => ?_)
    refine wp_iload d_TC_taken_68 rfl ?_
    refine wp_iload_n d_TC_taken_70 rfl rfl ?_
    refine wp_icmp_ne (t := 76) d_TC_taken_71 (by decide) (fun c71_1 => ?_) (fun c71_1 => ?_)
    · skip
      refine wp_getABOVE d_TC_taken_76 w_333 ?_
      refine wp_iload d_TC_taken_79 rfl ?_
      refine wp_aboveld d_TC_taken_81 (vp_in_nI (n := 0) (by decide) (by decide)) ?_
      rw [show px_above (0 : Int32).toNatClampNeg = (-1) from rfl]
      refine wp_istore (ls' := [_, _, _, _, _, _]) d_TC_taken_82 (by decide) rfl ?_
      refine wp_iinc (v := 2) (ls' := [_, _, _, _, _, _]) d_TC_taken_84 (by decide) rfl rfl rfl ?_
      refine wp_goto (t := 45) d_TC_taken_87 (by decide) ?_
      refine wp_iload d_TC_taken_45 rfl ?_
      refine wp_getABOVE d_TC_taken_47 w_333 ?_
      refine wp_abovelen d_TC_taken_50 ?_
      refine wp_icmp_ge (t := 90) d_TC_taken_51 (by decide) (fun c_51 => (absurd c_51 (by decide))) (fun c_51 => ?_)
      refine wp_iload d_TC_taken_54 rfl ?_
      refine wp_if_lt (t := 90) d_TC_taken_56 (by decide) (fun c_56 => ?_) (fun c_56 => (absurd c_56 (by decide)))
      refine wp_bipush (v := (-12)) d_TC_taken_90 (by decide) ?_
      refine wp_ireturn d_TC_taken_92 rfl rfl ?_
      exact kc (fun z => by
        rcases z with z | z | ⟨z, h⟩ | ⟨z, h⟩ | ⟨z, h⟩ <;> first | exact absurd h (by decide) | (subst z; first | exact absurd rfl c71_0 | exact absurd rfl c71_1))
    · skip
      refine wp_iload_n d_TC_taken_74 rfl rfl ?_
      refine wp_ireturn d_TC_taken_75 rfl rfl ?_
      have e : x = 0 := c71_1.symm
      subst e
      exact kk (by decide)
  · skip
    refine wp_iload_n d_TC_taken_74 rfl rfl ?_
    refine wp_ireturn d_TC_taken_75 rfl rfl ?_
    have e : x = 1 := c71_0.symm
    subst e
    exact kk (by decide)
set_option maxRecDepth 4000 in
theorem l_TC_taken_2 {m x : Int32} (kk : (x = 0 ∨ (2 : Int32) = x ∨ (x = 1 ∧ (2 : Int32) = 4) ∨ (x = 2 ∧ (2 : Int32) = 5) ∨ (x = 3 ∧ (2 : Int32) = 6)) → Q (some (.int 2)) (HT K MZ r)) (kc : ¬ (x = 0 ∨ (2 : Int32) = x ∨ (x = 1 ∧ (2 : Int32) = 4) ∨ (x = 2 ∧ (2 : Int32) = 5) ∨ (x = 3 ∧ (2 : Int32) = 6)) → Q (some (.int (-12))) (HT K MZ r)) : px_W G D 0 0 m_TC_taken 45 [some (.ref 0), some (.int m), some (.int x), some (.int 2), some (.int 2), some (.int 0)] [] (HT K MZ r) Q := by
  refine wp_iload d_TC_taken_45 rfl ?_
  refine wp_getABOVE d_TC_taken_47 w_333 ?_
  refine wp_abovelen d_TC_taken_50 ?_
  refine wp_icmp_ge (t := 90) d_TC_taken_51 (by decide) (fun c_51 => (absurd c_51 (by decide))) (fun c_51 => ?_)
  refine wp_iload d_TC_taken_54 rfl ?_
  refine wp_if_lt (t := 90) d_TC_taken_56 (by decide) (fun c_56 => (absurd c_56 (by decide))) (fun c_56 => ?_)
  refine wp_iload d_TC_taken_59 rfl ?_
  refine wp_getABOVE d_TC_taken_61 w_333 ?_
  refine wp_abovelen d_TC_taken_64 ?_
  refine wp_icmp_ge (t := 90) d_TC_taken_65 (by decide) (fun c_65 => (absurd c_65 (by decide))) (fun c_65 => ?_)
  refine wp_iload d_TC_taken_68 rfl ?_
  refine wp_iload_n d_TC_taken_70 rfl rfl ?_
  refine wp_icmp_ne (t := 76) d_TC_taken_71 (by decide) (fun c71_0 => ?_) (fun c71_0 => ?_)
  · skip
    refine wp_getABOVE d_TC_taken_76 w_333 ?_
    refine wp_iload d_TC_taken_79 rfl ?_
    refine wp_aboveld d_TC_taken_81 (vp_in_nI (n := 2) (by decide) (by decide)) ?_
    rw [show px_above (2 : Int32).toNatClampNeg = 0 from rfl]
    refine wp_istore (ls' := [_, _, _, _, _, _]) d_TC_taken_82 (by decide) rfl ?_
    refine wp_iinc (v := 1) (ls' := [_, _, _, _, _, _]) d_TC_taken_84 (by decide) rfl rfl rfl ?_
    refine wp_goto (t := 45) d_TC_taken_87 (by decide) ?_
    refine wp_iload d_TC_taken_45 rfl ?_
    refine wp_getABOVE d_TC_taken_47 w_333 ?_
    refine wp_abovelen d_TC_taken_50 ?_
    refine wp_icmp_ge (t := 90) d_TC_taken_51 (by decide) (fun c_51 => (absurd c_51 (by decide))) (fun c_51 => ?_)
    refine wp_iload d_TC_taken_54 rfl ?_
    refine wp_if_lt (t := 90) d_TC_taken_56 (by decide) (fun c_56 => (absurd c_56 (by decide))) (fun c_56 => ?_)
    refine wp_iload d_TC_taken_59 rfl ?_
    refine wp_getABOVE d_TC_taken_61 w_333 ?_
    refine wp_abovelen d_TC_taken_64 ?_
    refine wp_icmp_ge (t := 90) d_TC_taken_65 (by decide) (fun c_65 => (absurd c_65 (by decide))) (fun c_65 => ?_)
    refine wp_iload d_TC_taken_68 rfl ?_
    refine wp_iload_n d_TC_taken_70 rfl rfl ?_
    refine wp_icmp_ne (t := 76) d_TC_taken_71 (by decide) (fun c71_1 => ?_) (fun c71_1 => ?_)
    · skip
      refine wp_getABOVE d_TC_taken_76 w_333 ?_
      refine wp_iload d_TC_taken_79 rfl ?_
      refine wp_aboveld d_TC_taken_81 (vp_in_nI (n := 0) (by decide) (by decide)) ?_
      rw [show px_above (0 : Int32).toNatClampNeg = (-1) from rfl]
      refine wp_istore (ls' := [_, _, _, _, _, _]) d_TC_taken_82 (by decide) rfl ?_
      refine wp_iinc (v := 2) (ls' := [_, _, _, _, _, _]) d_TC_taken_84 (by decide) rfl rfl rfl ?_
      refine wp_goto (t := 45) d_TC_taken_87 (by decide) ?_
      refine wp_iload d_TC_taken_45 rfl ?_
      refine wp_getABOVE d_TC_taken_47 w_333 ?_
      refine wp_abovelen d_TC_taken_50 ?_
      refine wp_icmp_ge (t := 90) d_TC_taken_51 (by decide) (fun c_51 => (absurd c_51 (by decide))) (fun c_51 => ?_)
      refine wp_iload d_TC_taken_54 rfl ?_
      refine wp_if_lt (t := 90) d_TC_taken_56 (by decide) (fun c_56 => ?_) (fun c_56 => (absurd c_56 (by decide)))
      refine wp_bipush (v := (-12)) d_TC_taken_90 (by decide) ?_
      refine wp_ireturn d_TC_taken_92 rfl rfl ?_
      exact kc (fun z => by
        rcases z with z | z | ⟨z, h⟩ | ⟨z, h⟩ | ⟨z, h⟩ <;> first | exact absurd h (by decide) | (subst z; first | exact absurd rfl c71_0 | exact absurd rfl c71_1))
    · skip
      refine wp_iload_n d_TC_taken_74 rfl rfl ?_
      refine wp_ireturn d_TC_taken_75 rfl rfl ?_
      have e : x = 0 := c71_1.symm
      subst e
      exact kk (by decide)
  · skip
    refine wp_iload_n d_TC_taken_74 rfl rfl ?_
    refine wp_ireturn d_TC_taken_75 rfl rfl ?_
    have e : x = 2 := c71_0.symm
    subst e
    exact kk (by decide)
set_option maxRecDepth 4000 in
theorem l_TC_taken_3 {m x : Int32} (kk : (x = 0 ∨ (3 : Int32) = x ∨ (x = 1 ∧ (3 : Int32) = 4) ∨ (x = 2 ∧ (3 : Int32) = 5) ∨ (x = 3 ∧ (3 : Int32) = 6)) → Q (some (.int 3)) (HT K MZ r)) (kc : ¬ (x = 0 ∨ (3 : Int32) = x ∨ (x = 1 ∧ (3 : Int32) = 4) ∨ (x = 2 ∧ (3 : Int32) = 5) ∨ (x = 3 ∧ (3 : Int32) = 6)) → Q (some (.int (-12))) (HT K MZ r)) : px_W G D 0 0 m_TC_taken 45 [some (.ref 0), some (.int m), some (.int x), some (.int 3), some (.int 3), some (.int 0)] [] (HT K MZ r) Q := by
  refine wp_iload d_TC_taken_45 rfl ?_
  refine wp_getABOVE d_TC_taken_47 w_333 ?_
  refine wp_abovelen d_TC_taken_50 ?_
  refine wp_icmp_ge (t := 90) d_TC_taken_51 (by decide) (fun c_51 => (absurd c_51 (by decide))) (fun c_51 => ?_)
  refine wp_iload d_TC_taken_54 rfl ?_
  refine wp_if_lt (t := 90) d_TC_taken_56 (by decide) (fun c_56 => (absurd c_56 (by decide))) (fun c_56 => ?_)
  refine wp_iload d_TC_taken_59 rfl ?_
  refine wp_getABOVE d_TC_taken_61 w_333 ?_
  refine wp_abovelen d_TC_taken_64 ?_
  refine wp_icmp_ge (t := 90) d_TC_taken_65 (by decide) (fun c_65 => (absurd c_65 (by decide))) (fun c_65 => ?_)
  refine wp_iload d_TC_taken_68 rfl ?_
  refine wp_iload_n d_TC_taken_70 rfl rfl ?_
  refine wp_icmp_ne (t := 76) d_TC_taken_71 (by decide) (fun c71_0 => ?_) (fun c71_0 => ?_)
  · skip
    refine wp_getABOVE d_TC_taken_76 w_333 ?_
    refine wp_iload d_TC_taken_79 rfl ?_
    refine wp_aboveld d_TC_taken_81 (vp_in_nI (n := 3) (by decide) (by decide)) ?_
    rw [show px_above (3 : Int32).toNatClampNeg = 0 from rfl]
    refine wp_istore (ls' := [_, _, _, _, _, _]) d_TC_taken_82 (by decide) rfl ?_
    refine wp_iinc (v := 1) (ls' := [_, _, _, _, _, _]) d_TC_taken_84 (by decide) rfl rfl rfl ?_
    refine wp_goto (t := 45) d_TC_taken_87 (by decide) ?_
    refine wp_iload d_TC_taken_45 rfl ?_
    refine wp_getABOVE d_TC_taken_47 w_333 ?_
    refine wp_abovelen d_TC_taken_50 ?_
    refine wp_icmp_ge (t := 90) d_TC_taken_51 (by decide) (fun c_51 => (absurd c_51 (by decide))) (fun c_51 => ?_)
    refine wp_iload d_TC_taken_54 rfl ?_
    refine wp_if_lt (t := 90) d_TC_taken_56 (by decide) (fun c_56 => (absurd c_56 (by decide))) (fun c_56 => ?_)
    refine wp_iload d_TC_taken_59 rfl ?_
    refine wp_getABOVE d_TC_taken_61 w_333 ?_
    refine wp_abovelen d_TC_taken_64 ?_
    refine wp_icmp_ge (t := 90) d_TC_taken_65 (by decide) (fun c_65 => (absurd c_65 (by decide))) (fun c_65 => ?_)
    refine wp_iload d_TC_taken_68 rfl ?_
    refine wp_iload_n d_TC_taken_70 rfl rfl ?_
    refine wp_icmp_ne (t := 76) d_TC_taken_71 (by decide) (fun c71_1 => ?_) (fun c71_1 => ?_)
    · skip
      refine wp_getABOVE d_TC_taken_76 w_333 ?_
      refine wp_iload d_TC_taken_79 rfl ?_
      refine wp_aboveld d_TC_taken_81 (vp_in_nI (n := 0) (by decide) (by decide)) ?_
      rw [show px_above (0 : Int32).toNatClampNeg = (-1) from rfl]
      refine wp_istore (ls' := [_, _, _, _, _, _]) d_TC_taken_82 (by decide) rfl ?_
      refine wp_iinc (v := 2) (ls' := [_, _, _, _, _, _]) d_TC_taken_84 (by decide) rfl rfl rfl ?_
      refine wp_goto (t := 45) d_TC_taken_87 (by decide) ?_
      refine wp_iload d_TC_taken_45 rfl ?_
      refine wp_getABOVE d_TC_taken_47 w_333 ?_
      refine wp_abovelen d_TC_taken_50 ?_
      refine wp_icmp_ge (t := 90) d_TC_taken_51 (by decide) (fun c_51 => (absurd c_51 (by decide))) (fun c_51 => ?_)
      refine wp_iload d_TC_taken_54 rfl ?_
      refine wp_if_lt (t := 90) d_TC_taken_56 (by decide) (fun c_56 => ?_) (fun c_56 => (absurd c_56 (by decide)))
      refine wp_bipush (v := (-12)) d_TC_taken_90 (by decide) ?_
      refine wp_ireturn d_TC_taken_92 rfl rfl ?_
      exact kc (fun z => by
        rcases z with z | z | ⟨z, h⟩ | ⟨z, h⟩ | ⟨z, h⟩ <;> first | exact absurd h (by decide) | (subst z; first | exact absurd rfl c71_0 | exact absurd rfl c71_1))
    · skip
      refine wp_iload_n d_TC_taken_74 rfl rfl ?_
      refine wp_ireturn d_TC_taken_75 rfl rfl ?_
      have e : x = 0 := c71_1.symm
      subst e
      exact kk (by decide)
  · skip
    refine wp_iload_n d_TC_taken_74 rfl rfl ?_
    refine wp_ireturn d_TC_taken_75 rfl rfl ?_
    have e : x = 3 := c71_0.symm
    subst e
    exact kk (by decide)
set_option maxRecDepth 4000 in
theorem l_TC_taken_4 {m x : Int32} (kk : (x = 0 ∨ (4 : Int32) = x ∨ (x = 1 ∧ (4 : Int32) = 4) ∨ (x = 2 ∧ (4 : Int32) = 5) ∨ (x = 3 ∧ (4 : Int32) = 6)) → Q (some (.int 4)) (HT K MZ r)) (kc : ¬ (x = 0 ∨ (4 : Int32) = x ∨ (x = 1 ∧ (4 : Int32) = 4) ∨ (x = 2 ∧ (4 : Int32) = 5) ∨ (x = 3 ∧ (4 : Int32) = 6)) → Q (some (.int (-12))) (HT K MZ r)) : px_W G D 0 0 m_TC_taken 45 [some (.ref 0), some (.int m), some (.int x), some (.int 4), some (.int 4), some (.int 0)] [] (HT K MZ r) Q := by
  refine wp_iload d_TC_taken_45 rfl ?_
  refine wp_getABOVE d_TC_taken_47 w_333 ?_
  refine wp_abovelen d_TC_taken_50 ?_
  refine wp_icmp_ge (t := 90) d_TC_taken_51 (by decide) (fun c_51 => (absurd c_51 (by decide))) (fun c_51 => ?_)
  refine wp_iload d_TC_taken_54 rfl ?_
  refine wp_if_lt (t := 90) d_TC_taken_56 (by decide) (fun c_56 => (absurd c_56 (by decide))) (fun c_56 => ?_)
  refine wp_iload d_TC_taken_59 rfl ?_
  refine wp_getABOVE d_TC_taken_61 w_333 ?_
  refine wp_abovelen d_TC_taken_64 ?_
  refine wp_icmp_ge (t := 90) d_TC_taken_65 (by decide) (fun c_65 => (absurd c_65 (by decide))) (fun c_65 => ?_)
  refine wp_iload d_TC_taken_68 rfl ?_
  refine wp_iload_n d_TC_taken_70 rfl rfl ?_
  refine wp_icmp_ne (t := 76) d_TC_taken_71 (by decide) (fun c71_0 => ?_) (fun c71_0 => ?_)
  · skip
    refine wp_getABOVE d_TC_taken_76 w_333 ?_
    refine wp_iload d_TC_taken_79 rfl ?_
    refine wp_aboveld d_TC_taken_81 (vp_in_nI (n := 4) (by decide) (by decide)) ?_
    rw [show px_above (4 : Int32).toNatClampNeg = 1 from rfl]
    refine wp_istore (ls' := [_, _, _, _, _, _]) d_TC_taken_82 (by decide) rfl ?_
    refine wp_iinc (v := 1) (ls' := [_, _, _, _, _, _]) d_TC_taken_84 (by decide) rfl rfl rfl ?_
    refine wp_goto (t := 45) d_TC_taken_87 (by decide) ?_
    refine wp_iload d_TC_taken_45 rfl ?_
    refine wp_getABOVE d_TC_taken_47 w_333 ?_
    refine wp_abovelen d_TC_taken_50 ?_
    refine wp_icmp_ge (t := 90) d_TC_taken_51 (by decide) (fun c_51 => (absurd c_51 (by decide))) (fun c_51 => ?_)
    refine wp_iload d_TC_taken_54 rfl ?_
    refine wp_if_lt (t := 90) d_TC_taken_56 (by decide) (fun c_56 => (absurd c_56 (by decide))) (fun c_56 => ?_)
    refine wp_iload d_TC_taken_59 rfl ?_
    refine wp_getABOVE d_TC_taken_61 w_333 ?_
    refine wp_abovelen d_TC_taken_64 ?_
    refine wp_icmp_ge (t := 90) d_TC_taken_65 (by decide) (fun c_65 => (absurd c_65 (by decide))) (fun c_65 => ?_)
    refine wp_iload d_TC_taken_68 rfl ?_
    refine wp_iload_n d_TC_taken_70 rfl rfl ?_
    refine wp_icmp_ne (t := 76) d_TC_taken_71 (by decide) (fun c71_1 => ?_) (fun c71_1 => ?_)
    · skip
      refine wp_getABOVE d_TC_taken_76 w_333 ?_
      refine wp_iload d_TC_taken_79 rfl ?_
      refine wp_aboveld d_TC_taken_81 (vp_in_nI (n := 1) (by decide) (by decide)) ?_
      rw [show px_above (1 : Int32).toNatClampNeg = 0 from rfl]
      refine wp_istore (ls' := [_, _, _, _, _, _]) d_TC_taken_82 (by decide) rfl ?_
      refine wp_iinc (v := 2) (ls' := [_, _, _, _, _, _]) d_TC_taken_84 (by decide) rfl rfl rfl ?_
      refine wp_goto (t := 45) d_TC_taken_87 (by decide) ?_
      refine wp_iload d_TC_taken_45 rfl ?_
      refine wp_getABOVE d_TC_taken_47 w_333 ?_
      refine wp_abovelen d_TC_taken_50 ?_
      refine wp_icmp_ge (t := 90) d_TC_taken_51 (by decide) (fun c_51 => (absurd c_51 (by decide))) (fun c_51 => ?_)
      refine wp_iload d_TC_taken_54 rfl ?_
      refine wp_if_lt (t := 90) d_TC_taken_56 (by decide) (fun c_56 => (absurd c_56 (by decide))) (fun c_56 => ?_)
      refine wp_iload d_TC_taken_59 rfl ?_
      refine wp_getABOVE d_TC_taken_61 w_333 ?_
      refine wp_abovelen d_TC_taken_64 ?_
      refine wp_icmp_ge (t := 90) d_TC_taken_65 (by decide) (fun c_65 => (absurd c_65 (by decide))) (fun c_65 => ?_)
      refine wp_iload d_TC_taken_68 rfl ?_
      refine wp_iload_n d_TC_taken_70 rfl rfl ?_
      refine wp_icmp_ne (t := 76) d_TC_taken_71 (by decide) (fun c71_2 => ?_) (fun c71_2 => ?_)
      · skip
        refine wp_getABOVE d_TC_taken_76 w_333 ?_
        refine wp_iload d_TC_taken_79 rfl ?_
        refine wp_aboveld d_TC_taken_81 (vp_in_nI (n := 0) (by decide) (by decide)) ?_
        rw [show px_above (0 : Int32).toNatClampNeg = (-1) from rfl]
        refine wp_istore (ls' := [_, _, _, _, _, _]) d_TC_taken_82 (by decide) rfl ?_
        refine wp_iinc (v := 3) (ls' := [_, _, _, _, _, _]) d_TC_taken_84 (by decide) rfl rfl rfl ?_
        refine wp_goto (t := 45) d_TC_taken_87 (by decide) ?_
        refine wp_iload d_TC_taken_45 rfl ?_
        refine wp_getABOVE d_TC_taken_47 w_333 ?_
        refine wp_abovelen d_TC_taken_50 ?_
        refine wp_icmp_ge (t := 90) d_TC_taken_51 (by decide) (fun c_51 => (absurd c_51 (by decide))) (fun c_51 => ?_)
        refine wp_iload d_TC_taken_54 rfl ?_
        refine wp_if_lt (t := 90) d_TC_taken_56 (by decide) (fun c_56 => ?_) (fun c_56 => (absurd c_56 (by decide)))
        refine wp_bipush (v := (-12)) d_TC_taken_90 (by decide) ?_
        refine wp_ireturn d_TC_taken_92 rfl rfl ?_
        exact kc (fun z => by
          rcases z with z | z | ⟨z, h⟩ | ⟨z, h⟩ | ⟨z, h⟩ <;> first | exact absurd h (by decide) | (subst z; first | exact absurd rfl c71_0 | exact absurd rfl c71_1 | exact absurd rfl c71_2))
      · skip
        refine wp_iload_n d_TC_taken_74 rfl rfl ?_
        refine wp_ireturn d_TC_taken_75 rfl rfl ?_
        have e : x = 0 := c71_2.symm
        subst e
        exact kk (by decide)
    · skip
      refine wp_iload_n d_TC_taken_74 rfl rfl ?_
      refine wp_ireturn d_TC_taken_75 rfl rfl ?_
      have e : x = 1 := c71_1.symm
      subst e
      exact kk (by decide)
  · skip
    refine wp_iload_n d_TC_taken_74 rfl rfl ?_
    refine wp_ireturn d_TC_taken_75 rfl rfl ?_
    have e : x = 4 := c71_0.symm
    subst e
    exact kk (by decide)
set_option maxRecDepth 4000 in
theorem l_TC_taken_5 {m x : Int32} (kk : (x = 0 ∨ (5 : Int32) = x ∨ (x = 1 ∧ (5 : Int32) = 4) ∨ (x = 2 ∧ (5 : Int32) = 5) ∨ (x = 3 ∧ (5 : Int32) = 6)) → Q (some (.int 5)) (HT K MZ r)) (kc : ¬ (x = 0 ∨ (5 : Int32) = x ∨ (x = 1 ∧ (5 : Int32) = 4) ∨ (x = 2 ∧ (5 : Int32) = 5) ∨ (x = 3 ∧ (5 : Int32) = 6)) → Q (some (.int (-12))) (HT K MZ r)) : px_W G D 0 0 m_TC_taken 45 [some (.ref 0), some (.int m), some (.int x), some (.int 5), some (.int 5), some (.int 0)] [] (HT K MZ r) Q := by
  refine wp_iload d_TC_taken_45 rfl ?_
  refine wp_getABOVE d_TC_taken_47 w_333 ?_
  refine wp_abovelen d_TC_taken_50 ?_
  refine wp_icmp_ge (t := 90) d_TC_taken_51 (by decide) (fun c_51 => (absurd c_51 (by decide))) (fun c_51 => ?_)
  refine wp_iload d_TC_taken_54 rfl ?_
  refine wp_if_lt (t := 90) d_TC_taken_56 (by decide) (fun c_56 => (absurd c_56 (by decide))) (fun c_56 => ?_)
  refine wp_iload d_TC_taken_59 rfl ?_
  refine wp_getABOVE d_TC_taken_61 w_333 ?_
  refine wp_abovelen d_TC_taken_64 ?_
  refine wp_icmp_ge (t := 90) d_TC_taken_65 (by decide) (fun c_65 => (absurd c_65 (by decide))) (fun c_65 => ?_)
  refine wp_iload d_TC_taken_68 rfl ?_
  refine wp_iload_n d_TC_taken_70 rfl rfl ?_
  refine wp_icmp_ne (t := 76) d_TC_taken_71 (by decide) (fun c71_0 => ?_) (fun c71_0 => ?_)
  · skip
    refine wp_getABOVE d_TC_taken_76 w_333 ?_
    refine wp_iload d_TC_taken_79 rfl ?_
    refine wp_aboveld d_TC_taken_81 (vp_in_nI (n := 5) (by decide) (by decide)) ?_
    rw [show px_above (5 : Int32).toNatClampNeg = 2 from rfl]
    refine wp_istore (ls' := [_, _, _, _, _, _]) d_TC_taken_82 (by decide) rfl ?_
    refine wp_iinc (v := 1) (ls' := [_, _, _, _, _, _]) d_TC_taken_84 (by decide) rfl rfl rfl ?_
    refine wp_goto (t := 45) d_TC_taken_87 (by decide) ?_
    refine wp_iload d_TC_taken_45 rfl ?_
    refine wp_getABOVE d_TC_taken_47 w_333 ?_
    refine wp_abovelen d_TC_taken_50 ?_
    refine wp_icmp_ge (t := 90) d_TC_taken_51 (by decide) (fun c_51 => (absurd c_51 (by decide))) (fun c_51 => ?_)
    refine wp_iload d_TC_taken_54 rfl ?_
    refine wp_if_lt (t := 90) d_TC_taken_56 (by decide) (fun c_56 => (absurd c_56 (by decide))) (fun c_56 => ?_)
    refine wp_iload d_TC_taken_59 rfl ?_
    refine wp_getABOVE d_TC_taken_61 w_333 ?_
    refine wp_abovelen d_TC_taken_64 ?_
    refine wp_icmp_ge (t := 90) d_TC_taken_65 (by decide) (fun c_65 => (absurd c_65 (by decide))) (fun c_65 => ?_)
    refine wp_iload d_TC_taken_68 rfl ?_
    refine wp_iload_n d_TC_taken_70 rfl rfl ?_
    refine wp_icmp_ne (t := 76) d_TC_taken_71 (by decide) (fun c71_1 => ?_) (fun c71_1 => ?_)
    · skip
      refine wp_getABOVE d_TC_taken_76 w_333 ?_
      refine wp_iload d_TC_taken_79 rfl ?_
      refine wp_aboveld d_TC_taken_81 (vp_in_nI (n := 2) (by decide) (by decide)) ?_
      rw [show px_above (2 : Int32).toNatClampNeg = 0 from rfl]
      refine wp_istore (ls' := [_, _, _, _, _, _]) d_TC_taken_82 (by decide) rfl ?_
      refine wp_iinc (v := 2) (ls' := [_, _, _, _, _, _]) d_TC_taken_84 (by decide) rfl rfl rfl ?_
      refine wp_goto (t := 45) d_TC_taken_87 (by decide) ?_
      refine wp_iload d_TC_taken_45 rfl ?_
      refine wp_getABOVE d_TC_taken_47 w_333 ?_
      refine wp_abovelen d_TC_taken_50 ?_
      refine wp_icmp_ge (t := 90) d_TC_taken_51 (by decide) (fun c_51 => (absurd c_51 (by decide))) (fun c_51 => ?_)
      refine wp_iload d_TC_taken_54 rfl ?_
      refine wp_if_lt (t := 90) d_TC_taken_56 (by decide) (fun c_56 => (absurd c_56 (by decide))) (fun c_56 => ?_)
      refine wp_iload d_TC_taken_59 rfl ?_
      refine wp_getABOVE d_TC_taken_61 w_333 ?_
      refine wp_abovelen d_TC_taken_64 ?_
      refine wp_icmp_ge (t := 90) d_TC_taken_65 (by decide) (fun c_65 => (absurd c_65 (by decide))) (fun c_65 => ?_)
      refine wp_iload d_TC_taken_68 rfl ?_
      refine wp_iload_n d_TC_taken_70 rfl rfl ?_
      refine wp_icmp_ne (t := 76) d_TC_taken_71 (by decide) (fun c71_2 => ?_) (fun c71_2 => ?_)
      · skip
        refine wp_getABOVE d_TC_taken_76 w_333 ?_
        refine wp_iload d_TC_taken_79 rfl ?_
        refine wp_aboveld d_TC_taken_81 (vp_in_nI (n := 0) (by decide) (by decide)) ?_
        rw [show px_above (0 : Int32).toNatClampNeg = (-1) from rfl]
        refine wp_istore (ls' := [_, _, _, _, _, _]) d_TC_taken_82 (by decide) rfl ?_
        refine wp_iinc (v := 3) (ls' := [_, _, _, _, _, _]) d_TC_taken_84 (by decide) rfl rfl rfl ?_
        refine wp_goto (t := 45) d_TC_taken_87 (by decide) ?_
        refine wp_iload d_TC_taken_45 rfl ?_
        refine wp_getABOVE d_TC_taken_47 w_333 ?_
        refine wp_abovelen d_TC_taken_50 ?_
        refine wp_icmp_ge (t := 90) d_TC_taken_51 (by decide) (fun c_51 => (absurd c_51 (by decide))) (fun c_51 => ?_)
        refine wp_iload d_TC_taken_54 rfl ?_
        refine wp_if_lt (t := 90) d_TC_taken_56 (by decide) (fun c_56 => ?_) (fun c_56 => (absurd c_56 (by decide)))
        refine wp_bipush (v := (-12)) d_TC_taken_90 (by decide) ?_
        refine wp_ireturn d_TC_taken_92 rfl rfl ?_
        exact kc (fun z => by
          rcases z with z | z | ⟨z, h⟩ | ⟨z, h⟩ | ⟨z, h⟩ <;> first | exact absurd h (by decide) | (subst z; first | exact absurd rfl c71_0 | exact absurd rfl c71_1 | exact absurd rfl c71_2))
      · skip
        refine wp_iload_n d_TC_taken_74 rfl rfl ?_
        refine wp_ireturn d_TC_taken_75 rfl rfl ?_
        have e : x = 0 := c71_2.symm
        subst e
        exact kk (by decide)
    · skip
      refine wp_iload_n d_TC_taken_74 rfl rfl ?_
      refine wp_ireturn d_TC_taken_75 rfl rfl ?_
      have e : x = 2 := c71_1.symm
      subst e
      exact kk (by decide)
  · skip
    refine wp_iload_n d_TC_taken_74 rfl rfl ?_
    refine wp_ireturn d_TC_taken_75 rfl rfl ?_
    have e : x = 5 := c71_0.symm
    subst e
    exact kk (by decide)
set_option maxRecDepth 4000 in
theorem l_TC_taken_6 {m x : Int32} (kk : (x = 0 ∨ (6 : Int32) = x ∨ (x = 1 ∧ (6 : Int32) = 4) ∨ (x = 2 ∧ (6 : Int32) = 5) ∨ (x = 3 ∧ (6 : Int32) = 6)) → Q (some (.int 6)) (HT K MZ r)) (kc : ¬ (x = 0 ∨ (6 : Int32) = x ∨ (x = 1 ∧ (6 : Int32) = 4) ∨ (x = 2 ∧ (6 : Int32) = 5) ∨ (x = 3 ∧ (6 : Int32) = 6)) → Q (some (.int (-12))) (HT K MZ r)) : px_W G D 0 0 m_TC_taken 45 [some (.ref 0), some (.int m), some (.int x), some (.int 6), some (.int 6), some (.int 0)] [] (HT K MZ r) Q := by
  refine wp_iload d_TC_taken_45 rfl ?_
  refine wp_getABOVE d_TC_taken_47 w_333 ?_
  refine wp_abovelen d_TC_taken_50 ?_
  refine wp_icmp_ge (t := 90) d_TC_taken_51 (by decide) (fun c_51 => (absurd c_51 (by decide))) (fun c_51 => ?_)
  refine wp_iload d_TC_taken_54 rfl ?_
  refine wp_if_lt (t := 90) d_TC_taken_56 (by decide) (fun c_56 => (absurd c_56 (by decide))) (fun c_56 => ?_)
  refine wp_iload d_TC_taken_59 rfl ?_
  refine wp_getABOVE d_TC_taken_61 w_333 ?_
  refine wp_abovelen d_TC_taken_64 ?_
  refine wp_icmp_ge (t := 90) d_TC_taken_65 (by decide) (fun c_65 => (absurd c_65 (by decide))) (fun c_65 => ?_)
  refine wp_iload d_TC_taken_68 rfl ?_
  refine wp_iload_n d_TC_taken_70 rfl rfl ?_
  refine wp_icmp_ne (t := 76) d_TC_taken_71 (by decide) (fun c71_0 => ?_) (fun c71_0 => ?_)
  · skip
    refine wp_getABOVE d_TC_taken_76 w_333 ?_
    refine wp_iload d_TC_taken_79 rfl ?_
    refine wp_aboveld d_TC_taken_81 (vp_in_nI (n := 6) (by decide) (by decide)) ?_
    rw [show px_above (6 : Int32).toNatClampNeg = 3 from rfl]
    refine wp_istore (ls' := [_, _, _, _, _, _]) d_TC_taken_82 (by decide) rfl ?_
    refine wp_iinc (v := 1) (ls' := [_, _, _, _, _, _]) d_TC_taken_84 (by decide) rfl rfl rfl ?_
    refine wp_goto (t := 45) d_TC_taken_87 (by decide) ?_
    refine wp_iload d_TC_taken_45 rfl ?_
    refine wp_getABOVE d_TC_taken_47 w_333 ?_
    refine wp_abovelen d_TC_taken_50 ?_
    refine wp_icmp_ge (t := 90) d_TC_taken_51 (by decide) (fun c_51 => (absurd c_51 (by decide))) (fun c_51 => ?_)
    refine wp_iload d_TC_taken_54 rfl ?_
    refine wp_if_lt (t := 90) d_TC_taken_56 (by decide) (fun c_56 => (absurd c_56 (by decide))) (fun c_56 => ?_)
    refine wp_iload d_TC_taken_59 rfl ?_
    refine wp_getABOVE d_TC_taken_61 w_333 ?_
    refine wp_abovelen d_TC_taken_64 ?_
    refine wp_icmp_ge (t := 90) d_TC_taken_65 (by decide) (fun c_65 => (absurd c_65 (by decide))) (fun c_65 => ?_)
    refine wp_iload d_TC_taken_68 rfl ?_
    refine wp_iload_n d_TC_taken_70 rfl rfl ?_
    refine wp_icmp_ne (t := 76) d_TC_taken_71 (by decide) (fun c71_1 => ?_) (fun c71_1 => ?_)
    · skip
      refine wp_getABOVE d_TC_taken_76 w_333 ?_
      refine wp_iload d_TC_taken_79 rfl ?_
      refine wp_aboveld d_TC_taken_81 (vp_in_nI (n := 3) (by decide) (by decide)) ?_
      rw [show px_above (3 : Int32).toNatClampNeg = 0 from rfl]
      refine wp_istore (ls' := [_, _, _, _, _, _]) d_TC_taken_82 (by decide) rfl ?_
      refine wp_iinc (v := 2) (ls' := [_, _, _, _, _, _]) d_TC_taken_84 (by decide) rfl rfl rfl ?_
      refine wp_goto (t := 45) d_TC_taken_87 (by decide) ?_
      refine wp_iload d_TC_taken_45 rfl ?_
      refine wp_getABOVE d_TC_taken_47 w_333 ?_
      refine wp_abovelen d_TC_taken_50 ?_
      refine wp_icmp_ge (t := 90) d_TC_taken_51 (by decide) (fun c_51 => (absurd c_51 (by decide))) (fun c_51 => ?_)
      refine wp_iload d_TC_taken_54 rfl ?_
      refine wp_if_lt (t := 90) d_TC_taken_56 (by decide) (fun c_56 => (absurd c_56 (by decide))) (fun c_56 => ?_)
      refine wp_iload d_TC_taken_59 rfl ?_
      refine wp_getABOVE d_TC_taken_61 w_333 ?_
      refine wp_abovelen d_TC_taken_64 ?_
      refine wp_icmp_ge (t := 90) d_TC_taken_65 (by decide) (fun c_65 => (absurd c_65 (by decide))) (fun c_65 => ?_)
      refine wp_iload d_TC_taken_68 rfl ?_
      refine wp_iload_n d_TC_taken_70 rfl rfl ?_
      refine wp_icmp_ne (t := 76) d_TC_taken_71 (by decide) (fun c71_2 => ?_) (fun c71_2 => ?_)
      · skip
        refine wp_getABOVE d_TC_taken_76 w_333 ?_
        refine wp_iload d_TC_taken_79 rfl ?_
        refine wp_aboveld d_TC_taken_81 (vp_in_nI (n := 0) (by decide) (by decide)) ?_
        rw [show px_above (0 : Int32).toNatClampNeg = (-1) from rfl]
        refine wp_istore (ls' := [_, _, _, _, _, _]) d_TC_taken_82 (by decide) rfl ?_
        refine wp_iinc (v := 3) (ls' := [_, _, _, _, _, _]) d_TC_taken_84 (by decide) rfl rfl rfl ?_
        refine wp_goto (t := 45) d_TC_taken_87 (by decide) ?_
        refine wp_iload d_TC_taken_45 rfl ?_
        refine wp_getABOVE d_TC_taken_47 w_333 ?_
        refine wp_abovelen d_TC_taken_50 ?_
        refine wp_icmp_ge (t := 90) d_TC_taken_51 (by decide) (fun c_51 => (absurd c_51 (by decide))) (fun c_51 => ?_)
        refine wp_iload d_TC_taken_54 rfl ?_
        refine wp_if_lt (t := 90) d_TC_taken_56 (by decide) (fun c_56 => ?_) (fun c_56 => (absurd c_56 (by decide)))
        refine wp_bipush (v := (-12)) d_TC_taken_90 (by decide) ?_
        refine wp_ireturn d_TC_taken_92 rfl rfl ?_
        exact kc (fun z => by
          rcases z with z | z | ⟨z, h⟩ | ⟨z, h⟩ | ⟨z, h⟩ <;> first | exact absurd h (by decide) | (subst z; first | exact absurd rfl c71_0 | exact absurd rfl c71_1 | exact absurd rfl c71_2))
      · skip
        refine wp_iload_n d_TC_taken_74 rfl rfl ?_
        refine wp_ireturn d_TC_taken_75 rfl rfl ?_
        have e : x = 0 := c71_2.symm
        subst e
        exact kk (by decide)
    · skip
      refine wp_iload_n d_TC_taken_74 rfl rfl ?_
      refine wp_ireturn d_TC_taken_75 rfl rfl ?_
      have e : x = 3 := c71_1.symm
      subst e
      exact kk (by decide)
  · skip
    refine wp_iload_n d_TC_taken_74 rfl rfl ?_
    refine wp_ireturn d_TC_taken_75 rfl rfl ?_
    have e : x = 6 := c71_0.symm
    subst e
    exact kk (by decide)
set_option maxRecDepth 4000 in
theorem c_TC_taken {n : Nat} {kd vd : Nat → Int32} {ln : Nat → Nat} {cl : List sp_Cl} {m x : Int32} (hD : 5 ≤ D) (hR : tc_R mn sc MZ r) (hst : st_ok mn sc K 0 n B kd vd ln cl) (hB : B ≤ 20000) (h7 : K.1 0 7 = nI n) (hal : hall mn (K.2.2.1 0) n kd vd) (kb : ¬ (0 ≤ x ∧ x ≤ 6) → Q (some (.int (-2))) (HT K MZ r)) (kn : (0 ≤ x ∧ x ≤ 6) → ¬ (0 ≤ m ∧ m < nI n) → Q (some (.int (-11))) (HT K MZ r)) (kk : ∀ mm, mm < n → m = nI mm → (0 ≤ x ∧ x ≤ 6) → (x = 0 ∨ kd mm = x ∨ (x = 1 ∧ kd mm = 4) ∨ (x = 2 ∧ kd mm = 5) ∨ (x = 3 ∧ kd mm = 6)) → Q (some (.int (kd mm))) (HT K MZ r)) (kc : ∀ mm, mm < n → m = nI mm → (0 ≤ x ∧ x ≤ 6) → ¬ (x = 0 ∨ kd mm = x ∨ (x = 1 ∧ kd mm = 4) ∨ (x = 2 ∧ kd mm = 5) ∨ (x = 3 ∧ kd mm = 6)) → Q (some (.int (-12))) (HT K MZ r)) : px_W G D 0 0 m_TC_taken 0 (px_ent 6 [.ref 0, .int m, .int x]) [] (HT K MZ r) Q := by
  show px_W _ _ _ _ _ _ [some (.ref 0), some (.int m), some (.int x), none, none, none] [] _ _
  refine wp_iload_n d_TC_taken_0 rfl rfl ?_
  refine wp_if_lt (t := 12) d_TC_taken_1 (by decide) (fun c_1 => ?_) (fun c_1 => ?_)
  · skip
    refine wp_bipush (v := (-2)) d_TC_taken_12 (by decide) ?_
    refine wp_ireturn d_TC_taken_14 rfl rfl ?_
    first
      | exact kb (fun z => absurd z.1 (Int32.not_le.mpr c_1))
      | exact kb (fun z => c_9 ((i_lt (a := 7) (b := 6) rfl).mpr z.2))
  · skip
    refine wp_iload_n d_TC_taken_4 rfl rfl ?_
    refine wp_getABOVE d_TC_taken_5 w_333 ?_
    refine wp_abovelen d_TC_taken_8 ?_
    refine wp_icmp_lt (t := 15) d_TC_taken_9 (by decide) (fun c_9 => ?_) (fun c_9 => ?_)
    · skip
      refine wp_aload_n d_TC_taken_15 rfl rfl rfl ?_
      refine wp_iload_n d_TC_taken_16 rfl rfl ?_
      refine wp_callV (r := (R_0, T_0, 11)) (M' := m_TC_isNoMan) (as := [_]) (D' := D - 1) (C1 := 0) (C2 := 0) (S1 := 0) (S2 := 0) d_TC_taken_17 rfl w_407 w_409 w_0 tt_0 k_TC_isNoMan (Nat.le_of_ble_eq_true rfl) rfl (Nat.le_of_ble_eq_true rfl) (by omega) rfl rfl ?_
      refine c_TC_isNoMan (by omega) h7 (fun hm => ?_) (fun hm => ?_)
      · skip
        refine wp_if_eq (t := 26) d_TC_taken_20 (by decide) (fun c_20 => (absurd c_20 (by decide))) (fun c_20 => ?_)
        refine wp_bipush (v := (-11)) d_TC_taken_23 (by decide) ?_
        refine wp_ireturn d_TC_taken_25 rfl rfl ?_
        exact kn ⟨Int32.not_lt.mp c_1, (i_lt (a := 7) (b := 6) rfl).mp c_9⟩ hm
      · skip
        refine wp_if_eq (t := 26) d_TC_taken_20 (by decide) (fun c_20 => ?_) (fun c_20 => (absurd c_20 (by decide)))
        obtain ⟨mm, hmn, rfl⟩ := (i_rng (by have := hst.1.1; omega)).mp hm
        have hn6 := hst.1.1
        obtain ⟨pm, k0, v0, hwm, hmm, hkd, hvd⟩ := hal mm hmn
        obtain ⟨hk, -, hv10, -⟩ := hR.2.1 pm k0 mm v0 hmm
        have hx : 0 ≤ x ∧ x ≤ 6 := ⟨Int32.not_lt.mp c_1, (i_lt (a := 7) (b := 6) rfl).mp c_9⟩
        refine wp_aload_n d_TC_taken_26 rfl rfl rfl ?_
        refine gC_0 gf_TC_24_0 d_TC_taken_27 ?_
        refine gK_0 (s := 0) (by decide) gf_TC_101_1 d_TC_taken_30 ?_
        refine wp_iload_n d_TC_taken_33 rfl rfl ?_
        refine lK_0 (s := 0) (by decide) d_TC_taken_34 (vp_in_nI (by omega) (by decide)) ?_
        rw [nI_clamp (by omega), hwm]
        show px_W _ _ _ _ _ _ _ (.ref pm :: _) _ _
        refine v_kind_TC rfl hk (hR.man hmm) d_TC_taken_35 (Nat.le_of_ble_eq_true rfl) (by omega) ?_
        refine wp_istore_n (ls' := [_, _, _, _, _, _]) d_TC_taken_38 rfl (by decide) rfl ?_
        refine wp_iload_n d_TC_taken_39 rfl rfl ?_
        refine wp_istore (ls' := [_, _, _, _, _, _]) d_TC_taken_40 (by decide) rfl ?_
        refine wp_iconst (v := 0) d_TC_taken_42 rfl ?_
        refine wp_istore (ls' := [_, _, _, _, _, _]) d_TC_taken_43 (by decide) rfl ?_
        have kk2 := kk mm hmn rfl hx
        have kc2 := kc mm hmn rfl hx
        rw [hkd] at kk2 kc2
        have hk8 : k0 = 0 ∨ k0 = 1 ∨ k0 = 2 ∨ k0 = 3 ∨ k0 = 4 ∨ k0 = 5 ∨ k0 = 6 := by omega
        rcases hk8 with e | e | e | e | e | e | e <;> subst e
        · exact l_TC_taken_0 kk2 kc2
        · exact l_TC_taken_1 kk2 kc2
        · exact l_TC_taken_2 kk2 kc2
        · exact l_TC_taken_3 kk2 kc2
        · exact l_TC_taken_4 kk2 kc2
        · exact l_TC_taken_5 kk2 kc2
        · exact l_TC_taken_6 kk2 kc2
    · skip
      refine wp_bipush (v := (-2)) d_TC_taken_12 (by decide) ?_
      refine wp_ireturn d_TC_taken_14 rfl rfl ?_
      first
        | exact kb (fun z => absurd z.1 (Int32.not_le.mpr c_1))
        | exact kb (fun z => c_9 ((i_lt (a := 7) (b := 6) rfl).mpr z.2))
/-- the cell of a new man, and what it becomes -/
theorem mk_man {h : px_H} {m ci : Nat} (hm : h[m]? = some (.inr (ci, [.int 0, .int 0]))) : True := trivial
theorem gm_Ma_7 : ∀ k, k < 7 → px_GF "TubeChain$Man" 7 (5 + k) 0 .int true := by
  intro k hk
  match k, hk with
  | 0, _ => exact pgf_Ma_7_5
  | 1, _ => exact pgf_Ma_7_6
  | 2, _ => exact pgf_Ma_7_7
  | 3, _ => exact pgf_Ma_7_8
  | 4, _ => exact pgf_Ma_7_9
  | 5, _ => exact pgf_Ma_7_10
  | 6, _ => exact pgf_Ma_7_11
theorem gm_Ma_13 : ∀ k, k < 7 → px_GF "TubeChain$Man" 13 (5 + k) 1 .int true := by
  intro k hk
  match k, hk with
  | 0, _ => exact pgf_Ma_13_5
  | 1, _ => exact pgf_Ma_13_6
  | 2, _ => exact pgf_Ma_13_7
  | 3, _ => exact pgf_Ma_13_8
  | 4, _ => exact pgf_Ma_13_9
  | 5, _ => exact pgf_Ma_13_10
  | 6, _ => exact pgf_Ma_13_11
set_option maxRecDepth 4000 in
theorem c_Ma_init {m k0 : Nat} {a b : Int32} (hD : 1 ≤ D) (hk : k0 < 7) (hm : h[m]? = some (.inr (5 + k0, [.int 0, .int 0]))) (k : Q none (h.set m (.inr (5 + k0, [.int a, .int b])))) : px_W G D 0 0 m_Ma_init 0 (px_ent 3 [.ref m, .int a, .int b]) [] h Q := by
  show px_W _ _ _ _ _ _ [some (.ref m), some (.int a), some (.int b)] [] _ _
  refine wp_aload_n d_Ma_init_0 rfl rfl rfl ?_
  refine wp_objInit d_Ma_init_1 w_155 (Nat.le_of_ble_eq_true rfl) (by omega) ?_
  refine wp_aload_n d_Ma_init_4 rfl rfl rfl ?_
  refine wp_iload_n d_Ma_init_5 rfl rfl ?_
  refine wp_putF d_Ma_init_6 (gm_Ma_7 _ hk) rfl hm (by decide) rfl rfl rfl ?_
  refine wp_aload_n d_Ma_init_9 rfl rfl rfl ?_
  refine wp_iload_n d_Ma_init_10 rfl rfl ?_
  refine wp_putF d_Ma_init_11 (gm_Ma_13 _ hk) rfl (px_set_at hm) (by show _ < 2; decide) rfl rfl px_ss ?_
  refine wp_return d_Ma_init_14 rfl ?_
  exact k
set_option maxRecDepth 4000 in
theorem c_St_init {m k0 : Nat} {a b : Int32} (hD : 2 ≤ D) (hk : k0 < 7) (hm : h[m]? = some (.inr (5 + k0, [.int 0, .int 0]))) (k : Q none (h.set m (.inr (5 + k0, [.int a, .int b])))) : px_W G D 0 0 m_St_init 0 (px_ent 3 [.ref m, .int a, .int b]) [] h Q := by
  show px_W _ _ _ _ _ _ [some (.ref m), some (.int a), some (.int b)] [] _ _
  refine wp_aload_n d_St_init_0 rfl rfl rfl ?_
  refine wp_iload_n d_St_init_1 rfl rfl ?_
  refine wp_iload_n d_St_init_2 rfl rfl ?_
  refine wp_callI (M' := m_Ma_init) (as := [_, _]) (D' := D - 1) (C1 := 0) (C2 := 0) (S1 := 0) (S2 := 0) rfl d_St_init_3 rfl w_343 w_153 k_Ma_init (Nat.le_of_ble_eq_true rfl) rfl (Nat.le_of_ble_eq_true rfl) (by omega) rfl rfl ?_
  refine c_Ma_init (by omega) hk hm ?_
  refine wp_return d_St_init_6 rfl ?_
  exact k
set_option maxRecDepth 4000 in
theorem c_Gl_init {m k0 : Nat} {a b : Int32} (hD : 2 ≤ D) (hk : k0 < 7) (hm : h[m]? = some (.inr (5 + k0, [.int 0, .int 0]))) (k : Q none (h.set m (.inr (5 + k0, [.int a, .int b])))) : px_W G D 0 0 m_Gl_init 0 (px_ent 3 [.ref m, .int a, .int b]) [] h Q := by
  show px_W _ _ _ _ _ _ [some (.ref m), some (.int a), some (.int b)] [] _ _
  refine wp_aload_n d_Gl_init_0 rfl rfl rfl ?_
  refine wp_iload_n d_Gl_init_1 rfl rfl ?_
  refine wp_iload_n d_Gl_init_2 rfl rfl ?_
  refine wp_callI (M' := m_Ma_init) (as := [_, _]) (D' := D - 1) (C1 := 0) (C2 := 0) (S1 := 0) (S2 := 0) rfl d_Gl_init_3 rfl w_352 w_153 k_Ma_init (Nat.le_of_ble_eq_true rfl) rfl (Nat.le_of_ble_eq_true rfl) (by omega) rfl rfl ?_
  refine c_Ma_init (by omega) hk hm ?_
  refine wp_return d_Gl_init_6 rfl ?_
  exact k
set_option maxRecDepth 4000 in
theorem c_Ti_init {m k0 : Nat} {a b : Int32} (hD : 2 ≤ D) (hk : k0 < 7) (hm : h[m]? = some (.inr (5 + k0, [.int 0, .int 0]))) (k : Q none (h.set m (.inr (5 + k0, [.int a, .int b])))) : px_W G D 0 0 m_Ti_init 0 (px_ent 3 [.ref m, .int a, .int b]) [] h Q := by
  show px_W _ _ _ _ _ _ [some (.ref m), some (.int a), some (.int b)] [] _ _
  refine wp_aload_n d_Ti_init_0 rfl rfl rfl ?_
  refine wp_iload_n d_Ti_init_1 rfl rfl ?_
  refine wp_iload_n d_Ti_init_2 rfl rfl ?_
  refine wp_callI (M' := m_Ma_init) (as := [_, _]) (D' := D - 1) (C1 := 0) (C2 := 0) (S1 := 0) (S2 := 0) rfl d_Ti_init_3 rfl w_361 w_153 k_Ma_init (Nat.le_of_ble_eq_true rfl) rfl (Nat.le_of_ble_eq_true rfl) (by omega) rfl rfl ?_
  refine c_Ma_init (by omega) hk hm ?_
  refine wp_return d_Ti_init_6 rfl ?_
  exact k
set_option maxRecDepth 4000 in
theorem c_Ca_init {m k0 : Nat} {a b : Int32} (hD : 3 ≤ D) (hk : k0 < 7) (hm : h[m]? = some (.inr (5 + k0, [.int 0, .int 0]))) (k : Q none (h.set m (.inr (5 + k0, [.int a, .int b])))) : px_W G D 0 0 m_Ca_init 0 (px_ent 3 [.ref m, .int a, .int b]) [] h Q := by
  show px_W _ _ _ _ _ _ [some (.ref m), some (.int a), some (.int b)] [] _ _
  refine wp_aload_n d_Ca_init_0 rfl rfl rfl ?_
  refine wp_iload_n d_Ca_init_1 rfl rfl ?_
  refine wp_iload_n d_Ca_init_2 rfl rfl ?_
  refine wp_callI (M' := m_St_init) (as := [_, _]) (D' := D - 1) (C1 := 0) (C2 := 0) (S1 := 0) (S2 := 0) rfl d_Ca_init_3 rfl w_370 w_341 k_St_init (Nat.le_of_ble_eq_true rfl) rfl (Nat.le_of_ble_eq_true rfl) (by omega) rfl rfl ?_
  refine c_St_init (by omega) hk hm ?_
  refine wp_return d_Ca_init_6 rfl ?_
  exact k
set_option maxRecDepth 4000 in
theorem c_Sl_init {m k0 : Nat} {a b : Int32} (hD : 3 ≤ D) (hk : k0 < 7) (hm : h[m]? = some (.inr (5 + k0, [.int 0, .int 0]))) (k : Q none (h.set m (.inr (5 + k0, [.int a, .int b])))) : px_W G D 0 0 m_Sl_init 0 (px_ent 3 [.ref m, .int a, .int b]) [] h Q := by
  show px_W _ _ _ _ _ _ [some (.ref m), some (.int a), some (.int b)] [] _ _
  refine wp_aload_n d_Sl_init_0 rfl rfl rfl ?_
  refine wp_iload_n d_Sl_init_1 rfl rfl ?_
  refine wp_iload_n d_Sl_init_2 rfl rfl ?_
  refine wp_callI (M' := m_Gl_init) (as := [_, _]) (D' := D - 1) (C1 := 0) (C2 := 0) (S1 := 0) (S2 := 0) rfl d_Sl_init_3 rfl w_379 w_350 k_Gl_init (Nat.le_of_ble_eq_true rfl) rfl (Nat.le_of_ble_eq_true rfl) (by omega) rfl rfl ?_
  refine c_Gl_init (by omega) hk hm ?_
  refine wp_return d_Sl_init_6 rfl ?_
  exact k
set_option maxRecDepth 4000 in
theorem c_To_init {m k0 : Nat} {a b : Int32} (hD : 3 ≤ D) (hk : k0 < 7) (hm : h[m]? = some (.inr (5 + k0, [.int 0, .int 0]))) (k : Q none (h.set m (.inr (5 + k0, [.int a, .int b])))) : px_W G D 0 0 m_To_init 0 (px_ent 3 [.ref m, .int a, .int b]) [] h Q := by
  show px_W _ _ _ _ _ _ [some (.ref m), some (.int a), some (.int b)] [] _ _
  refine wp_aload_n d_To_init_0 rfl rfl rfl ?_
  refine wp_iload_n d_To_init_1 rfl rfl ?_
  refine wp_iload_n d_To_init_2 rfl rfl ?_
  refine wp_callI (M' := m_Ti_init) (as := [_, _]) (D' := D - 1) (C1 := 0) (C2 := 0) (S1 := 0) (S2 := 0) rfl d_To_init_3 rfl w_388 w_359 k_Ti_init (Nat.le_of_ble_eq_true rfl) rfl (Nat.le_of_ble_eq_true rfl) (by omega) rfl rfl ?_
  refine c_Ti_init (by omega) hk hm ?_
  refine wp_return d_To_init_6 rfl ?_
  exact k
theorem set_last {h : px_H} {a b : px_E} : (h ++ [a]).set h.length b = h ++ [b] := by simp
set_option maxRecDepth 4000 in
theorem c_TC_newMan {k0 : Nat} {a b : Int32} (hD : 4 ≤ D) (hk : k0 < 7) (k : Q (some (.ref h.length)) (h ++ [.inr (5 + k0, [.int a, .int b])])) : px_W G D 1 2 m_TC_newMan 0 (px_ent 3 [.int (nI k0), .int a, .int b]) [] h Q := by
  show px_W _ _ _ _ _ _ [some (.int (nI k0)), some (.int a), some (.int b)] [] _ _
  refine wp_iload_n d_TC_newMan_0 rfl rfl ?_
  refine wp_topi (fun y_1 e_1 => ?_)
  by_cases s_1_1 : y_1 = 1
  · rw [s_1_1]
    refine wp_tableIn (off := 39) (t := 40) d_TC_newMan_1 (by decide) (by decide) rfl (by decide) ?_
    refine wp_new (ci := 6) (N := 2) (C' := 0) (S' := 0) (fs := [.int 0, .int 0]) d_TC_newMan_40 ⟨(R_6, T_6, 2), rfl, rfl, w_338, w_339, w_81, fun j hj => by
      match j, hj with
      | 0, _ => exact ⟨_, rfl, rfl⟩
      | 1, _ => exact ⟨_, rfl, rfl⟩⟩ rfl rfl rfl ?_
    refine wp_dup d_TC_newMan_43 rfl ?_
    refine wp_iload_n d_TC_newMan_44 rfl rfl ?_
    refine wp_iload_n d_TC_newMan_45 rfl rfl ?_
    refine wp_callI (M' := m_St_init) (as := [_, _]) (D' := D - 1) (C1 := 0) (C2 := 0) (S1 := 0) (S2 := 0) rfl d_TC_newMan_46 rfl w_340 w_341 k_St_init (Nat.le_of_ble_eq_true rfl) rfl (Nat.le_of_ble_eq_true rfl) (by omega) rfl rfl ?_
    refine c_St_init (k0 := 1) (by omega) (by decide) (List.getElem?_concat_length ..) ?_
    refine wp_areturn d_TC_newMan_49 rfl (by first | exact Or.inl ⟨_, rfl⟩ | exact Or.inr ⟨_, rfl⟩) ?_
    first
      | (have e : k0 = 1 := (nI_eq (b := 1) (by omega) (by decide)).mp (e_1.symm.trans s_1_1)
         subst e
         rw [set_last]
         exact k)
      | (have e : k0 = 2 := (nI_eq (b := 2) (by omega) (by decide)).mp (e_1.symm.trans s_1_2)
         subst e
         rw [set_last]
         exact k)
      | (have e : k0 = 3 := (nI_eq (b := 3) (by omega) (by decide)).mp (e_1.symm.trans s_1_3)
         subst e
         rw [set_last]
         exact k)
      | (have e : k0 = 4 := (nI_eq (b := 4) (by omega) (by decide)).mp (e_1.symm.trans s_1_4)
         subst e
         rw [set_last]
         exact k)
      | (have e : k0 = 5 := (nI_eq (b := 5) (by omega) (by decide)).mp (e_1.symm.trans s_1_5)
         subst e
         rw [set_last]
         exact k)
      | (have e : k0 = 6 := (nI_eq (b := 6) (by omega) (by decide)).mp (e_1.symm.trans s_1_6)
         subst e
         rw [set_last]
         exact k)
      | (have e : k0 = 0 := by
           have h1 : k0 ≠ 1 := fun z => s_1_1 (e_1.trans (congrArg nI z))
           have h2 : k0 ≠ 2 := fun z => s_1_2 (e_1.trans (congrArg nI z))
           have h3 : k0 ≠ 3 := fun z => s_1_3 (e_1.trans (congrArg nI z))
           have h4 : k0 ≠ 4 := fun z => s_1_4 (e_1.trans (congrArg nI z))
           have h5 : k0 ≠ 5 := fun z => s_1_5 (e_1.trans (congrArg nI z))
           have h6 : k0 ≠ 6 := fun z => s_1_6 (e_1.trans (congrArg nI z))
           omega
         subst e
         rw [set_last]
         exact k)
  by_cases s_1_2 : y_1 = 2
  · rw [s_1_2]
    refine wp_tableIn (off := 49) (t := 50) d_TC_newMan_1 (by decide) (by decide) rfl (by decide) ?_
    refine wp_new (ci := 7) (N := 2) (C' := 0) (S' := 0) (fs := [.int 0, .int 0]) d_TC_newMan_50 ⟨(R_7, T_7, 2), rfl, rfl, w_347, w_348, w_82, fun j hj => by
      match j, hj with
      | 0, _ => exact ⟨_, rfl, rfl⟩
      | 1, _ => exact ⟨_, rfl, rfl⟩⟩ rfl rfl rfl ?_
    refine wp_dup d_TC_newMan_53 rfl ?_
    refine wp_iload_n d_TC_newMan_54 rfl rfl ?_
    refine wp_iload_n d_TC_newMan_55 rfl rfl ?_
    refine wp_callI (M' := m_Gl_init) (as := [_, _]) (D' := D - 1) (C1 := 0) (C2 := 0) (S1 := 0) (S2 := 0) rfl d_TC_newMan_56 rfl w_349 w_350 k_Gl_init (Nat.le_of_ble_eq_true rfl) rfl (Nat.le_of_ble_eq_true rfl) (by omega) rfl rfl ?_
    refine c_Gl_init (k0 := 2) (by omega) (by decide) (List.getElem?_concat_length ..) ?_
    refine wp_areturn d_TC_newMan_59 rfl (by first | exact Or.inl ⟨_, rfl⟩ | exact Or.inr ⟨_, rfl⟩) ?_
    first
      | (have e : k0 = 1 := (nI_eq (b := 1) (by omega) (by decide)).mp (e_1.symm.trans s_1_1)
         subst e
         rw [set_last]
         exact k)
      | (have e : k0 = 2 := (nI_eq (b := 2) (by omega) (by decide)).mp (e_1.symm.trans s_1_2)
         subst e
         rw [set_last]
         exact k)
      | (have e : k0 = 3 := (nI_eq (b := 3) (by omega) (by decide)).mp (e_1.symm.trans s_1_3)
         subst e
         rw [set_last]
         exact k)
      | (have e : k0 = 4 := (nI_eq (b := 4) (by omega) (by decide)).mp (e_1.symm.trans s_1_4)
         subst e
         rw [set_last]
         exact k)
      | (have e : k0 = 5 := (nI_eq (b := 5) (by omega) (by decide)).mp (e_1.symm.trans s_1_5)
         subst e
         rw [set_last]
         exact k)
      | (have e : k0 = 6 := (nI_eq (b := 6) (by omega) (by decide)).mp (e_1.symm.trans s_1_6)
         subst e
         rw [set_last]
         exact k)
      | (have e : k0 = 0 := by
           have h1 : k0 ≠ 1 := fun z => s_1_1 (e_1.trans (congrArg nI z))
           have h2 : k0 ≠ 2 := fun z => s_1_2 (e_1.trans (congrArg nI z))
           have h3 : k0 ≠ 3 := fun z => s_1_3 (e_1.trans (congrArg nI z))
           have h4 : k0 ≠ 4 := fun z => s_1_4 (e_1.trans (congrArg nI z))
           have h5 : k0 ≠ 5 := fun z => s_1_5 (e_1.trans (congrArg nI z))
           have h6 : k0 ≠ 6 := fun z => s_1_6 (e_1.trans (congrArg nI z))
           omega
         subst e
         rw [set_last]
         exact k)
  by_cases s_1_3 : y_1 = 3
  · rw [s_1_3]
    refine wp_tableIn (off := 59) (t := 60) d_TC_newMan_1 (by decide) (by decide) rfl (by decide) ?_
    refine wp_new (ci := 8) (N := 2) (C' := 0) (S' := 0) (fs := [.int 0, .int 0]) d_TC_newMan_60 ⟨(R_8, T_8, 2), rfl, rfl, w_356, w_357, w_83, fun j hj => by
      match j, hj with
      | 0, _ => exact ⟨_, rfl, rfl⟩
      | 1, _ => exact ⟨_, rfl, rfl⟩⟩ rfl rfl rfl ?_
    refine wp_dup d_TC_newMan_63 rfl ?_
    refine wp_iload_n d_TC_newMan_64 rfl rfl ?_
    refine wp_iload_n d_TC_newMan_65 rfl rfl ?_
    refine wp_callI (M' := m_Ti_init) (as := [_, _]) (D' := D - 1) (C1 := 0) (C2 := 0) (S1 := 0) (S2 := 0) rfl d_TC_newMan_66 rfl w_358 w_359 k_Ti_init (Nat.le_of_ble_eq_true rfl) rfl (Nat.le_of_ble_eq_true rfl) (by omega) rfl rfl ?_
    refine c_Ti_init (k0 := 3) (by omega) (by decide) (List.getElem?_concat_length ..) ?_
    refine wp_areturn d_TC_newMan_69 rfl (by first | exact Or.inl ⟨_, rfl⟩ | exact Or.inr ⟨_, rfl⟩) ?_
    first
      | (have e : k0 = 1 := (nI_eq (b := 1) (by omega) (by decide)).mp (e_1.symm.trans s_1_1)
         subst e
         rw [set_last]
         exact k)
      | (have e : k0 = 2 := (nI_eq (b := 2) (by omega) (by decide)).mp (e_1.symm.trans s_1_2)
         subst e
         rw [set_last]
         exact k)
      | (have e : k0 = 3 := (nI_eq (b := 3) (by omega) (by decide)).mp (e_1.symm.trans s_1_3)
         subst e
         rw [set_last]
         exact k)
      | (have e : k0 = 4 := (nI_eq (b := 4) (by omega) (by decide)).mp (e_1.symm.trans s_1_4)
         subst e
         rw [set_last]
         exact k)
      | (have e : k0 = 5 := (nI_eq (b := 5) (by omega) (by decide)).mp (e_1.symm.trans s_1_5)
         subst e
         rw [set_last]
         exact k)
      | (have e : k0 = 6 := (nI_eq (b := 6) (by omega) (by decide)).mp (e_1.symm.trans s_1_6)
         subst e
         rw [set_last]
         exact k)
      | (have e : k0 = 0 := by
           have h1 : k0 ≠ 1 := fun z => s_1_1 (e_1.trans (congrArg nI z))
           have h2 : k0 ≠ 2 := fun z => s_1_2 (e_1.trans (congrArg nI z))
           have h3 : k0 ≠ 3 := fun z => s_1_3 (e_1.trans (congrArg nI z))
           have h4 : k0 ≠ 4 := fun z => s_1_4 (e_1.trans (congrArg nI z))
           have h5 : k0 ≠ 5 := fun z => s_1_5 (e_1.trans (congrArg nI z))
           have h6 : k0 ≠ 6 := fun z => s_1_6 (e_1.trans (congrArg nI z))
           omega
         subst e
         rw [set_last]
         exact k)
  by_cases s_1_4 : y_1 = 4
  · rw [s_1_4]
    refine wp_tableIn (off := 69) (t := 70) d_TC_newMan_1 (by decide) (by decide) rfl (by decide) ?_
    refine wp_new (ci := 9) (N := 2) (C' := 0) (S' := 0) (fs := [.int 0, .int 0]) d_TC_newMan_70 ⟨(R_9, T_9, 2), rfl, rfl, w_365, w_366, w_84, fun j hj => by
      match j, hj with
      | 0, _ => exact ⟨_, rfl, rfl⟩
      | 1, _ => exact ⟨_, rfl, rfl⟩⟩ rfl rfl rfl ?_
    refine wp_dup d_TC_newMan_73 rfl ?_
    refine wp_iload_n d_TC_newMan_74 rfl rfl ?_
    refine wp_iload_n d_TC_newMan_75 rfl rfl ?_
    refine wp_callI (M' := m_Ca_init) (as := [_, _]) (D' := D - 1) (C1 := 0) (C2 := 0) (S1 := 0) (S2 := 0) rfl d_TC_newMan_76 rfl w_367 w_368 k_Ca_init (Nat.le_of_ble_eq_true rfl) rfl (Nat.le_of_ble_eq_true rfl) (by omega) rfl rfl ?_
    refine c_Ca_init (k0 := 4) (by omega) (by decide) (List.getElem?_concat_length ..) ?_
    refine wp_areturn d_TC_newMan_79 rfl (by first | exact Or.inl ⟨_, rfl⟩ | exact Or.inr ⟨_, rfl⟩) ?_
    first
      | (have e : k0 = 1 := (nI_eq (b := 1) (by omega) (by decide)).mp (e_1.symm.trans s_1_1)
         subst e
         rw [set_last]
         exact k)
      | (have e : k0 = 2 := (nI_eq (b := 2) (by omega) (by decide)).mp (e_1.symm.trans s_1_2)
         subst e
         rw [set_last]
         exact k)
      | (have e : k0 = 3 := (nI_eq (b := 3) (by omega) (by decide)).mp (e_1.symm.trans s_1_3)
         subst e
         rw [set_last]
         exact k)
      | (have e : k0 = 4 := (nI_eq (b := 4) (by omega) (by decide)).mp (e_1.symm.trans s_1_4)
         subst e
         rw [set_last]
         exact k)
      | (have e : k0 = 5 := (nI_eq (b := 5) (by omega) (by decide)).mp (e_1.symm.trans s_1_5)
         subst e
         rw [set_last]
         exact k)
      | (have e : k0 = 6 := (nI_eq (b := 6) (by omega) (by decide)).mp (e_1.symm.trans s_1_6)
         subst e
         rw [set_last]
         exact k)
      | (have e : k0 = 0 := by
           have h1 : k0 ≠ 1 := fun z => s_1_1 (e_1.trans (congrArg nI z))
           have h2 : k0 ≠ 2 := fun z => s_1_2 (e_1.trans (congrArg nI z))
           have h3 : k0 ≠ 3 := fun z => s_1_3 (e_1.trans (congrArg nI z))
           have h4 : k0 ≠ 4 := fun z => s_1_4 (e_1.trans (congrArg nI z))
           have h5 : k0 ≠ 5 := fun z => s_1_5 (e_1.trans (congrArg nI z))
           have h6 : k0 ≠ 6 := fun z => s_1_6 (e_1.trans (congrArg nI z))
           omega
         subst e
         rw [set_last]
         exact k)
  by_cases s_1_5 : y_1 = 5
  · rw [s_1_5]
    refine wp_tableIn (off := 79) (t := 80) d_TC_newMan_1 (by decide) (by decide) rfl (by decide) ?_
    refine wp_new (ci := 10) (N := 2) (C' := 0) (S' := 0) (fs := [.int 0, .int 0]) d_TC_newMan_80 ⟨(R_10, T_10, 2), rfl, rfl, w_374, w_375, w_85, fun j hj => by
      match j, hj with
      | 0, _ => exact ⟨_, rfl, rfl⟩
      | 1, _ => exact ⟨_, rfl, rfl⟩⟩ rfl rfl rfl ?_
    refine wp_dup d_TC_newMan_83 rfl ?_
    refine wp_iload_n d_TC_newMan_84 rfl rfl ?_
    refine wp_iload_n d_TC_newMan_85 rfl rfl ?_
    refine wp_callI (M' := m_Sl_init) (as := [_, _]) (D' := D - 1) (C1 := 0) (C2 := 0) (S1 := 0) (S2 := 0) rfl d_TC_newMan_86 rfl w_376 w_377 k_Sl_init (Nat.le_of_ble_eq_true rfl) rfl (Nat.le_of_ble_eq_true rfl) (by omega) rfl rfl ?_
    refine c_Sl_init (k0 := 5) (by omega) (by decide) (List.getElem?_concat_length ..) ?_
    refine wp_areturn d_TC_newMan_89 rfl (by first | exact Or.inl ⟨_, rfl⟩ | exact Or.inr ⟨_, rfl⟩) ?_
    first
      | (have e : k0 = 1 := (nI_eq (b := 1) (by omega) (by decide)).mp (e_1.symm.trans s_1_1)
         subst e
         rw [set_last]
         exact k)
      | (have e : k0 = 2 := (nI_eq (b := 2) (by omega) (by decide)).mp (e_1.symm.trans s_1_2)
         subst e
         rw [set_last]
         exact k)
      | (have e : k0 = 3 := (nI_eq (b := 3) (by omega) (by decide)).mp (e_1.symm.trans s_1_3)
         subst e
         rw [set_last]
         exact k)
      | (have e : k0 = 4 := (nI_eq (b := 4) (by omega) (by decide)).mp (e_1.symm.trans s_1_4)
         subst e
         rw [set_last]
         exact k)
      | (have e : k0 = 5 := (nI_eq (b := 5) (by omega) (by decide)).mp (e_1.symm.trans s_1_5)
         subst e
         rw [set_last]
         exact k)
      | (have e : k0 = 6 := (nI_eq (b := 6) (by omega) (by decide)).mp (e_1.symm.trans s_1_6)
         subst e
         rw [set_last]
         exact k)
      | (have e : k0 = 0 := by
           have h1 : k0 ≠ 1 := fun z => s_1_1 (e_1.trans (congrArg nI z))
           have h2 : k0 ≠ 2 := fun z => s_1_2 (e_1.trans (congrArg nI z))
           have h3 : k0 ≠ 3 := fun z => s_1_3 (e_1.trans (congrArg nI z))
           have h4 : k0 ≠ 4 := fun z => s_1_4 (e_1.trans (congrArg nI z))
           have h5 : k0 ≠ 5 := fun z => s_1_5 (e_1.trans (congrArg nI z))
           have h6 : k0 ≠ 6 := fun z => s_1_6 (e_1.trans (congrArg nI z))
           omega
         subst e
         rw [set_last]
         exact k)
  by_cases s_1_6 : y_1 = 6
  · rw [s_1_6]
    refine wp_tableIn (off := 89) (t := 90) d_TC_newMan_1 (by decide) (by decide) rfl (by decide) ?_
    refine wp_new (ci := 11) (N := 2) (C' := 0) (S' := 0) (fs := [.int 0, .int 0]) d_TC_newMan_90 ⟨(R_11, T_11, 2), rfl, rfl, w_383, w_384, w_86, fun j hj => by
      match j, hj with
      | 0, _ => exact ⟨_, rfl, rfl⟩
      | 1, _ => exact ⟨_, rfl, rfl⟩⟩ rfl rfl rfl ?_
    refine wp_dup d_TC_newMan_93 rfl ?_
    refine wp_iload_n d_TC_newMan_94 rfl rfl ?_
    refine wp_iload_n d_TC_newMan_95 rfl rfl ?_
    refine wp_callI (M' := m_To_init) (as := [_, _]) (D' := D - 1) (C1 := 0) (C2 := 0) (S1 := 0) (S2 := 0) rfl d_TC_newMan_96 rfl w_385 w_386 k_To_init (Nat.le_of_ble_eq_true rfl) rfl (Nat.le_of_ble_eq_true rfl) (by omega) rfl rfl ?_
    refine c_To_init (k0 := 6) (by omega) (by decide) (List.getElem?_concat_length ..) ?_
    refine wp_areturn d_TC_newMan_99 rfl (by first | exact Or.inl ⟨_, rfl⟩ | exact Or.inr ⟨_, rfl⟩) ?_
    first
      | (have e : k0 = 1 := (nI_eq (b := 1) (by omega) (by decide)).mp (e_1.symm.trans s_1_1)
         subst e
         rw [set_last]
         exact k)
      | (have e : k0 = 2 := (nI_eq (b := 2) (by omega) (by decide)).mp (e_1.symm.trans s_1_2)
         subst e
         rw [set_last]
         exact k)
      | (have e : k0 = 3 := (nI_eq (b := 3) (by omega) (by decide)).mp (e_1.symm.trans s_1_3)
         subst e
         rw [set_last]
         exact k)
      | (have e : k0 = 4 := (nI_eq (b := 4) (by omega) (by decide)).mp (e_1.symm.trans s_1_4)
         subst e
         rw [set_last]
         exact k)
      | (have e : k0 = 5 := (nI_eq (b := 5) (by omega) (by decide)).mp (e_1.symm.trans s_1_5)
         subst e
         rw [set_last]
         exact k)
      | (have e : k0 = 6 := (nI_eq (b := 6) (by omega) (by decide)).mp (e_1.symm.trans s_1_6)
         subst e
         rw [set_last]
         exact k)
      | (have e : k0 = 0 := by
           have h1 : k0 ≠ 1 := fun z => s_1_1 (e_1.trans (congrArg nI z))
           have h2 : k0 ≠ 2 := fun z => s_1_2 (e_1.trans (congrArg nI z))
           have h3 : k0 ≠ 3 := fun z => s_1_3 (e_1.trans (congrArg nI z))
           have h4 : k0 ≠ 4 := fun z => s_1_4 (e_1.trans (congrArg nI z))
           have h5 : k0 ≠ 5 := fun z => s_1_5 (e_1.trans (congrArg nI z))
           have h6 : k0 ≠ 6 := fun z => s_1_6 (e_1.trans (congrArg nI z))
           omega
         subst e
         rw [set_last]
         exact k)
  have n_1_1 : y_1.toInt ≠ 1 := lv_neT s_1_1 rfl
  have n_1_2 : y_1.toInt ≠ 2 := lv_neT s_1_2 rfl
  have n_1_3 : y_1.toInt ≠ 3 := lv_neT s_1_3 rfl
  have n_1_4 : y_1.toInt ≠ 4 := lv_neT s_1_4 rfl
  have n_1_5 : y_1.toInt ≠ 5 := lv_neT s_1_5 rfl
  have n_1_6 : y_1.toInt ≠ 6 := lv_neT s_1_6 rfl
  refine wp_tableOut (t := 100) d_TC_newMan_1 (by omega) (by decide) ?_
  refine wp_new (ci := 5) (N := 2) (C' := 0) (S' := 0) (fs := [.int 0, .int 0]) d_TC_newMan_100 ⟨(R_5, T_5, 2), rfl, rfl, w_150, w_151, w_76, fun j hj => by
    match j, hj with
    | 0, _ => exact ⟨_, rfl, rfl⟩
    | 1, _ => exact ⟨_, rfl, rfl⟩⟩ rfl rfl rfl ?_
  refine wp_dup d_TC_newMan_103 rfl ?_
  refine wp_iload_n d_TC_newMan_104 rfl rfl ?_
  refine wp_iload_n d_TC_newMan_105 rfl rfl ?_
  refine wp_callI (M' := m_Ma_init) (as := [_, _]) (D' := D - 1) (C1 := 0) (C2 := 0) (S1 := 0) (S2 := 0) rfl d_TC_newMan_106 rfl w_152 w_153 k_Ma_init (Nat.le_of_ble_eq_true rfl) rfl (Nat.le_of_ble_eq_true rfl) (by omega) rfl rfl ?_
  refine c_Ma_init (k0 := 0) (by omega) (by decide) (List.getElem?_concat_length ..) ?_
  refine wp_areturn d_TC_newMan_109 rfl (by first | exact Or.inl ⟨_, rfl⟩ | exact Or.inr ⟨_, rfl⟩) ?_
  first
    | (have e : k0 = 1 := (nI_eq (b := 1) (by omega) (by decide)).mp (e_1.symm.trans s_1_1)
       subst e
       rw [set_last]
       exact k)
    | (have e : k0 = 2 := (nI_eq (b := 2) (by omega) (by decide)).mp (e_1.symm.trans s_1_2)
       subst e
       rw [set_last]
       exact k)
    | (have e : k0 = 3 := (nI_eq (b := 3) (by omega) (by decide)).mp (e_1.symm.trans s_1_3)
       subst e
       rw [set_last]
       exact k)
    | (have e : k0 = 4 := (nI_eq (b := 4) (by omega) (by decide)).mp (e_1.symm.trans s_1_4)
       subst e
       rw [set_last]
       exact k)
    | (have e : k0 = 5 := (nI_eq (b := 5) (by omega) (by decide)).mp (e_1.symm.trans s_1_5)
       subst e
       rw [set_last]
       exact k)
    | (have e : k0 = 6 := (nI_eq (b := 6) (by omega) (by decide)).mp (e_1.symm.trans s_1_6)
       subst e
       rw [set_last]
       exact k)
    | (have e : k0 = 0 := by
         have h1 : k0 ≠ 1 := fun z => s_1_1 (e_1.trans (congrArg nI z))
         have h2 : k0 ≠ 2 := fun z => s_1_2 (e_1.trans (congrArg nI z))
         have h3 : k0 ≠ 3 := fun z => s_1_3 (e_1.trans (congrArg nI z))
         have h4 : k0 ≠ 4 := fun z => s_1_4 (e_1.trans (congrArg nI z))
         have h5 : k0 ≠ 5 := fun z => s_1_5 (e_1.trans (congrArg nI z))
         have h6 : k0 ≠ 6 := fun z => s_1_6 (e_1.trans (congrArg nI z))
         omega
       subst e
       rw [set_last]
       exact k)
end TDN
