def hkof (hh : Nat) : Nat := if hh < 1000 then hh else 990 + hh % 10
theorem hkof_lt (hh : Nat) : hkof hh < 1000 := by
  unfold hkof
  split <;> omega
theorem fc_hk {k v : Int32} {n p hh : Nat} (h : hh < 2 ^ 31) : fc k v (nI hh) n p = fc k v (nI (hkof hh)) n p := by
  have hl := hkof_lt hh
  have e3 : nI hh - nI hh / 10 * 10 = nI (hkof hh) - nI (hkof hh) / 10 * 10 := by
    rw [show nI hh - nI hh / 10 * 10 = nI (hh % 10) from pk_rem h (by decide) (by decide), show nI (hkof hh) - nI (hkof hh) / 10 * 10 = nI (hkof hh % 10) from pk_rem (by omega) (by decide) (by decide)]
    apply congrArg nI
    unfold hkof
    split <;> omega
  have e4 : (if 99 < nI hh / 10 then 99 else nI hh / 10) = (if 99 < nI (hkof hh) / 10 then 99 else nI (hkof hh) / 10) := by
    rw [show nI hh / 10 = nI (hh / 10) from mo_div 10 h (by decide) (by decide), show nI (hkof hh) / 10 = nI (hkof hh / 10) from mo_div 10 (by omega) (by decide) (by decide)]
    unfold hkof
    by_cases h1 : hh < 1000
    · rw [if_pos h1]
    · rw [if_neg h1]
      by_cases h2 : 99 < hh / 10
      · rw [if_pos (show (99 : Int32) < nI (hh / 10) from (nI_ltI (a := 99) (by decide) (by omega)).mpr h2), show (990 + hh % 10) / 10 = 99 by omega]
        rfl
      · rw [show (990 + hh % 10) / 10 = 99 by omega, show hh / 10 = 99 by omega]
  funext f
  unfold fc
  rw [e3, e4]
theorem sp_one_r : ∀ a, a < 1999 → sp_one (nI a - 1000) = nI (if a ≤ 1001 then 1 else a - 1000) := by decide +kernel
theorem sub_1000 (a n : Nat) : (nI a - 1000) + nI n = nI (a + n) - 1000 := by
  rw [← nI_add, Int32.sub_eq_add_neg, Int32.sub_eq_add_neg, Int32.add_assoc, Int32.add_comm (-1000) (nI n), ← Int32.add_assoc]
theorem sub_1000' {a n : Nat} (h : n ≤ a) : (nI a - 1000) + -nI n = nI (a - n) - 1000 := by
  have e : nI a = nI (a - n) + nI n := by rw [nI_add]; exact congrArg nI (by omega)
  rw [e, Int32.sub_eq_add_neg, Int32.sub_eq_add_neg, Int32.add_assoc, Int32.add_assoc, Int32.add_comm (nI n), Int32.add_assoc, Int32.add_comm (-nI n), Int32.add_right_neg, Int32.add_zero]
theorem sp_pace_b {f : Nat → Int32} {cl : List sp_Cl} (hg : tc_gd cl) : ∃ pc, 1 ≤ pc ∧ pc < 1024 ∧ sp_pace f cl = nI pc := by
  have key : ∀ (cl : List sp_Cl) (q a : Nat), (∀ c, c ∈ cl → tc_gc c) → cl.length ≤ q → 100 * q ≤ a → a + 99 * q < 1999 → ∃ b, b < 1999 ∧ cl.foldl (sp_add f) (nI a - 1000) = nI b - 1000 := by
    intro cl
    induction cl with
    | nil => intro q a _ _ _ h; exact ⟨a, by omega, rfl⟩
    | cons x cl ih =>
      intro q a hg hq h1 h2
      have hx := hg x List.mem_cons_self
      have hq1 : cl.length + 1 ≤ q := hq
      show ∃ b, b < 1999 ∧ cl.foldl (sp_add f) (sp_add f (nI a - 1000) x) = nI b - 1000
      unfold sp_add
      have hn := hx.2.1
      split
      · split
        · rw [sub_1000]
          exact ih (q - 1) (a + x.2.1) (fun y hy => hg y (List.mem_cons_of_mem _ hy)) (by omega) (by omega) (by omega)
        · rw [sub_1000' (by omega)]
          exact ih (q - 1) (a - x.2.1) (fun y hy => hg y (List.mem_cons_of_mem _ hy)) (by omega) (by omega) (by omega)
      · exact ih (q - 1) a (fun y hy => hg y (List.mem_cons_of_mem _ hy)) (by omega) (by omega) (by omega)
  obtain ⟨b, hb, e⟩ := key cl 10 1008 hg.2.2 hg.1 (by decide) (by decide)
  refine ⟨if b ≤ 1001 then 1 else b - 1000, by split <;> omega, by split <;> omega, ?_⟩
  rw [← sp_one_r b hb, ← e]
  rfl
/-- what a place of the paces known stands for -/
def tg (n k v p hk : Nat) : Nat := (((n * 7 + k) * 10 + v) * 6 + p) * 1000 + hk
def cok (cl : List sp_Cl) (kn : Nat → Int64) : Prop := ∀ i, i < 2304 → ∃ e, kn i = lN e ∧ e < 2 ^ 50 ∧ ∀ n k v p hk, n < 6 → k < 7 → v < 10 → p < 6 → hk < 1000 → e / 1024 = tg n k v p hk → e % 1024 ≠ 0 → sp_pace (fc (nI k) (nI v) (nI hk) n p) cl = nI (e % 1024)
theorem cok_0 (cl : List sp_Cl) : cok cl (fun _ => 0) := fun i _ => ⟨0, rfl, by decide, fun n k v p hk _ _ _ _ _ _ h => absurd rfl h⟩
theorem cok.put {cl : List sp_Cl} {kn : Nat → Int64} (h : cok cl kn) {n k v p hk pc i : Nat} (hn : n < 6) (hk7 : k < 7) (hv : v < 10) (hp : p < 6) (hh : hk < 1000) (hpc : pc < 1024) (e : sp_pace (fc (nI k) (nI v) (nI hk) n p) cl = nI pc) : cok cl (vp_updL kn i (lN (tg n k v p hk * 1024 + pc))) := by
  intro j hj
  by_cases hji : j = i
  · refine ⟨tg n k v p hk * 1024 + pc, if_pos hji, by unfold tg; omega, fun n' k' v' p' hk' a1 a2 a3 a4 a5 h1 h2 => ?_⟩
    have h3 : tg n k v p hk = tg n' k' v' p' hk' := by omega
    unfold tg at h3
    have b1 : n' = n := by omega
    have b2 : k' = k := by omega
    have b3 : v' = v := by omega
    have b4 : p' = p := by omega
    have b5 : hk' = hk := by omega
    subst b1; subst b2; subst b3; subst b4; subst b5
    rw [e]
    exact congrArg nI (by omega)
  · obtain ⟨e0, g1, g2, g3⟩ := h j hj
    exact ⟨e0, (if_neg hji).trans g1, g2, g3⟩
section TCU
variable {G : px_G} {D : Nat} {h : px_H} {Q : Option Value → px_H → Prop}
set_option maxRecDepth 4000 in
theorem l_Sc_pace_19 {c tt : Nat} {n0 a0 a1 ri re pu : Int32} {m n k0 p hh vn N : Nat} {cl : List sp_Cl} {cc vv : Nat → Int32} {kn : Nat → Int64} (hD : 5 ≤ D) (hk : k0 < 7) (hv10 : vn < 10) (hn6 : n < 6) (hp6 : p < 6) (hh31 : hh < 2 ^ 31) (he : h[m]? = some (.inr (5 + k0, [.int (nI n), .int (nI vn)]))) (hgd : tc_gd cl) (he0 : h[c]? = some (.inr (3, (SCF c tt n0 a0 a1 ri re pu)))) (hn0 : n0 = nI (tc_codes cl).length) (he1 : h[c + 1]? = some (iA 100 cc)) (hcc : ∀ q t, (tc_codes cl)[q]? = some t → cc q = t) (he2 : h[c + 2]? = some (iA 6 vv)) (he3 : h[c + 3]? = some (.inl (.long, N, .inr (.inl kn)))) (hN : N = 0 ∨ N = 2304) (hcok : cok cl kn) (k : ∀ vv2 kn2, cok cl kn2 → (N = 0 → kn2 = kn) → Q (some (.int (sp_pace (fc (nI k0) (nI vn) (nI hh) n p) cl))) ((h.set (c + 2) (iA 6 vv2)).set (c + 3) (.inl (.long, N, .inr (.inl kn2))))) : px_W G D 0 0 m_Sc_pace 19 [some (.ref c), some (.ref m), some (.int (nI p)), some (.int (nI hh)), none, none, none, none, none] [.int (nI (hkof hh))] h Q := by
  refine wp_istore (ls' := [_, _, _, _, _, _, _, _, _]) d_Sc_pace_19 (by decide) rfl ?_
  refine wp_aload_n d_Sc_pace_21 rfl rfl rfl ?_
  refine wp_getf d_Sc_pace_22 (gk_Sc_103 _ hk) he rfl ?_
  refine wp_bipush (v := 6) d_Sc_pace_25 (by decide) ?_
  refine wp_imul d_Sc_pace_27 ?_
  refine wp_iload_n d_Sc_pace_28 rfl rfl ?_
  refine wp_iadd d_Sc_pace_29 ?_
  refine wp_bipush (v := 64) d_Sc_pace_30 (by decide) ?_
  refine wp_imul d_Sc_pace_32 ?_
  refine wp_iload_n d_Sc_pace_33 rfl rfl ?_
  refine wp_bipush (v := 64) d_Sc_pace_34 (by decide) ?_
  refine wp_irem d_Sc_pace_36 (by decide) ?_
  refine wp_iadd d_Sc_pace_37 ?_
  rw [show (nI n * 6 + nI p) * 64 + (nI hh - nI hh / 64 * 64) = nI ((n * 6 + p) * 64 + hh % 64) from by rw [show nI hh - nI hh / 64 * 64 = nI (hh % 64) from pk_rem hh31 (by decide) (by decide), show nI n * 6 = nI (n * 6) from pk_mul n 6, nI_add, show nI (n * 6 + p) * 64 = nI ((n * 6 + p) * 64) from pk_mul _ 64, nI_add]]
  refine wp_istore (ls' := [_, _, _, _, _, _, _, _, _]) d_Sc_pace_38 (by decide) rfl ?_
  refine wp_iload d_Sc_pace_40 rfl ?_
  refine wp_if_lt (t := 55) d_Sc_pace_42 (by decide) (fun c_42 => absurd c_42 (nI_pos (by omega))) (fun c_42 => ?_)
  refine wp_iload d_Sc_pace_45 rfl ?_
  refine wp_aload_n d_Sc_pace_47 rfl rfl rfl ?_
  refine wp_getf d_Sc_pace_48 gf_Sc_34_3 he0 rfl ?_
  refine wp_alen (t0 := 1) d_Sc_pace_51 he3 rfl (show Int32.ofNat N = nI N from rfl) ?_
  refine wp_icmp_lt (t := 63) d_Sc_pace_52 (by decide) (fun c_52 => ?_) (fun c_52 => ?_)
  · skip
    have hsl : ((n * 6 + p) * 64 + hh % 64) < N := (nI_ltI (by omega) (by omega)).mp c_52
    have hN2 : N = 2304 := by omega
    obtain ⟨e, ee, e50, ec⟩ := hcok ((n * 6 + p) * 64 + hh % 64) (by omega)
    have ht31 : tg n k0 vn p (hkof hh) < 2 ^ 40 := by have := hkof_lt hh; unfold tg; omega
    refine wp_aload_n d_Sc_pace_63 rfl rfl rfl ?_
    refine wp_getf d_Sc_pace_64 (gk_Sc_103 _ hk) he rfl ?_
    refine wp_bipush (v := 7) d_Sc_pace_67 (by decide) ?_
    refine wp_imul d_Sc_pace_69 ?_
    refine wp_aload_n d_Sc_pace_70 rfl rfl rfl ?_
    refine v_kind_Sc rfl hk he d_Sc_pace_71 (Nat.le_of_ble_eq_true rfl) (by omega) ?_
    refine wp_iadd d_Sc_pace_74 ?_
    refine wp_bipush (v := 10) d_Sc_pace_75 (by decide) ?_
    refine wp_imul d_Sc_pace_77 ?_
    refine wp_aload_n d_Sc_pace_78 rfl rfl rfl ?_
    refine wp_getf d_Sc_pace_79 (gk_Sc_115 _ hk) he rfl ?_
    refine wp_iadd d_Sc_pace_82 ?_
    refine wp_bipush (v := 6) d_Sc_pace_83 (by decide) ?_
    refine wp_imul d_Sc_pace_85 ?_
    refine wp_iload_n d_Sc_pace_86 rfl rfl ?_
    refine wp_iadd d_Sc_pace_87 ?_
    rw [show ((nI n * 7 + nI k0) * 10 + nI vn) * 6 + nI p = nI (((n * 7 + k0) * 10 + vn) * 6 + p) from by rw [show nI n * 7 = nI (n * 7) from pk_mul n 7, nI_add, show nI (n * 7 + k0) * 10 = nI ((n * 7 + k0) * 10) from pk_mul _ 10, nI_add, show nI ((n * 7 + k0) * 10 + vn) * 6 = nI (((n * 7 + k0) * 10 + vn) * 6) from pk_mul _ 6, nI_add]]
    refine wp_i2l d_Sc_pace_88 ?_
    refine wp_lstore (ls' := [_, _, _, _, _, _, _, _, _]) d_Sc_pace_89 (by decide) rfl ?_
    refine wp_lload d_Sc_pace_91 rfl ?_
    refine wp_ldc2 d_Sc_pace_93 w_458 ?_
    refine wp_lmul d_Sc_pace_96 ?_
    refine wp_iload d_Sc_pace_97 rfl ?_
    refine wp_i2l d_Sc_pace_99 ?_
    refine wp_ladd d_Sc_pace_100 ?_
    rw [nI_l (by omega), nI_l (by have := hkof_lt hh; omega), show lN (((n * 7 + k0) * 10 + vn) * 6 + p) * 1000 + lN (hkof hh) = lN (tg n k0 vn p (hkof hh)) from by rw [show lN (((n * 7 + k0) * 10 + vn) * 6 + p) * 1000 = lN ((((n * 7 + k0) * 10 + vn) * 6 + p) * 1000) from lN_mul _ 1000, lN_add]; rfl]
    refine wp_lstore (ls' := [_, _, _, _, _, _, _, _, _]) d_Sc_pace_101 (by decide) rfl ?_
    refine wp_aload_n d_Sc_pace_103 rfl rfl rfl ?_
    refine wp_getf d_Sc_pace_104 gf_Sc_34_3 he0 rfl ?_
    refine wp_iload d_Sc_pace_107 rfl ?_
    refine wp_lald d_Sc_pace_109 he3 (vp_in_nI hsl (by omega)) ?_
    rw [nI_clamp (by omega), ee]
    refine wp_ldc2 d_Sc_pace_110 w_459 ?_
    refine wp_ldiv d_Sc_pace_113 (by decide) ?_
    rw [show lN e / 1024 = lN (e / 1024) from pk_lDiv (by omega) (by decide) (by decide)]
    refine wp_lload d_Sc_pace_114 rfl ?_
    refine wp_lcmp d_Sc_pace_116 ?_
    refine wp_if_ne (t := 149) d_Sc_pace_117 (by decide) (fun c_117 => ?_) (fun c_117 => ?_)
    · skip
      refine wp_aload_n d_Sc_pace_149 rfl rfl rfl ?_
      refine wp_aload_n d_Sc_pace_150 rfl rfl rfl ?_
      refine wp_iload_n d_Sc_pace_151 rfl rfl ?_
      refine wp_iload_n d_Sc_pace_152 rfl rfl ?_
      refine wp_callV (r := (R_3, T_3, 10)) (M' := m_Sc_reckonPace) (as := [_, _, _]) (D' := D - 1) (C1 := 0) (C2 := 0) (S1 := 0) (S2 := 0) d_Sc_pace_153 rfl w_446 w_448 w_1 he0 k_Sc_reckonPace (Nat.le_of_ble_eq_true rfl) rfl (Nat.le_of_ble_eq_true rfl) (by omega) rfl rfl ?_
      refine c_Sc_reckonPace (by omega) hk he hgd he0 hn0 he1 hcc he2 (fun vv2 => ?_)
      obtain ⟨pc, pc1, pc2, ep⟩ := sp_pace_b (f := fc (nI k0) (nI vn) (nI hh) n p) hgd
      refine wp_istore (ls' := [_, _, _, _, _, _, _, _, _]) d_Sc_pace_156 (by decide) rfl ?_
      refine wp_aload_n d_Sc_pace_158 rfl rfl rfl ?_
      refine wp_getf d_Sc_pace_159 gf_Sc_34_3 (px_set_ne (by omega) he0) rfl ?_
      refine wp_iload d_Sc_pace_162 rfl ?_
      refine wp_lload d_Sc_pace_164 rfl ?_
      refine wp_ldc2 d_Sc_pace_166 w_459 ?_
      refine wp_lmul d_Sc_pace_169 ?_
      refine wp_iload d_Sc_pace_170 rfl ?_
      refine wp_i2l d_Sc_pace_172 ?_
      refine wp_ladd d_Sc_pace_173 ?_
      rw [ep, nI_l (by omega), show lN (tg n k0 vn p (hkof hh)) * 1024 + lN pc = lN (tg n k0 vn p (hkof hh) * 1024 + pc) from by rw [show lN (tg n k0 vn p (hkof hh)) * 1024 = lN (tg n k0 vn p (hkof hh) * 1024) from lN_mul _ 1024, lN_add]]
      refine wp_last d_Sc_pace_174 (px_set_ne (by omega) he3) (vp_in_nI hsl (by omega)) rfl ?_
      refine wp_iload d_Sc_pace_175 rfl ?_
      refine wp_ireturn d_Sc_pace_177 rfl rfl ?_
      rw [nI_clamp (by omega), ← ep]
      exact k vv2 _ (hcok.put hn6 hk hv10 hp6 (hkof_lt hh) pc2 (by rw [← fc_hk hh31]; exact ep)) (fun z => by omega)
    · skip
      refine wp_aload_n d_Sc_pace_120 rfl rfl rfl ?_
      refine wp_getf d_Sc_pace_121 gf_Sc_34_3 he0 rfl ?_
      refine wp_iload d_Sc_pace_124 rfl ?_
      refine wp_lald d_Sc_pace_126 he3 (vp_in_nI hsl (by omega)) ?_
      rw [nI_clamp (by omega), ee]
      refine wp_ldc2 d_Sc_pace_127 w_459 ?_
      refine wp_lrem d_Sc_pace_130 (by decide) ?_
      rw [show lN e - lN e / 1024 * 1024 = lN (e % 1024) from pk_lRem (by omega) (by decide) (by decide)]
      refine wp_lconst (v := 0) d_Sc_pace_131 rfl ?_
      refine wp_lcmp d_Sc_pace_132 ?_
      refine wp_if_eq (t := 149) d_Sc_pace_133 (by decide) (fun c_133 => ?_) (fun c_133 => ?_)
      · skip
        refine wp_aload_n d_Sc_pace_149 rfl rfl rfl ?_
        refine wp_aload_n d_Sc_pace_150 rfl rfl rfl ?_
        refine wp_iload_n d_Sc_pace_151 rfl rfl ?_
        refine wp_iload_n d_Sc_pace_152 rfl rfl ?_
        refine wp_callV (r := (R_3, T_3, 10)) (M' := m_Sc_reckonPace) (as := [_, _, _]) (D' := D - 1) (C1 := 0) (C2 := 0) (S1 := 0) (S2 := 0) d_Sc_pace_153 rfl w_446 w_448 w_1 he0 k_Sc_reckonPace (Nat.le_of_ble_eq_true rfl) rfl (Nat.le_of_ble_eq_true rfl) (by omega) rfl rfl ?_
        refine c_Sc_reckonPace (by omega) hk he hgd he0 hn0 he1 hcc he2 (fun vv2 => ?_)
        obtain ⟨pc, pc1, pc2, ep⟩ := sp_pace_b (f := fc (nI k0) (nI vn) (nI hh) n p) hgd
        refine wp_istore (ls' := [_, _, _, _, _, _, _, _, _]) d_Sc_pace_156 (by decide) rfl ?_
        refine wp_aload_n d_Sc_pace_158 rfl rfl rfl ?_
        refine wp_getf d_Sc_pace_159 gf_Sc_34_3 (px_set_ne (by omega) he0) rfl ?_
        refine wp_iload d_Sc_pace_162 rfl ?_
        refine wp_lload d_Sc_pace_164 rfl ?_
        refine wp_ldc2 d_Sc_pace_166 w_459 ?_
        refine wp_lmul d_Sc_pace_169 ?_
        refine wp_iload d_Sc_pace_170 rfl ?_
        refine wp_i2l d_Sc_pace_172 ?_
        refine wp_ladd d_Sc_pace_173 ?_
        rw [ep, nI_l (by omega), show lN (tg n k0 vn p (hkof hh)) * 1024 + lN pc = lN (tg n k0 vn p (hkof hh) * 1024 + pc) from by rw [show lN (tg n k0 vn p (hkof hh)) * 1024 = lN (tg n k0 vn p (hkof hh) * 1024) from lN_mul _ 1024, lN_add]]
        refine wp_last d_Sc_pace_174 (px_set_ne (by omega) he3) (vp_in_nI hsl (by omega)) rfl ?_
        refine wp_iload d_Sc_pace_175 rfl ?_
        refine wp_ireturn d_Sc_pace_177 rfl rfl ?_
        rw [nI_clamp (by omega), ← ep]
        exact k vv2 _ (hcok.put hn6 hk hv10 hp6 (hkof_lt hh) pc2 (by rw [← fc_hk hh31]; exact ep)) (fun z => by omega)
      · skip
        refine wp_aload_n d_Sc_pace_136 rfl rfl rfl ?_
        refine wp_getf d_Sc_pace_137 gf_Sc_34_3 he0 rfl ?_
        refine wp_iload d_Sc_pace_140 rfl ?_
        refine wp_lald d_Sc_pace_142 he3 (vp_in_nI hsl (by omega)) ?_
        rw [nI_clamp (by omega), ee]
        refine wp_ldc2 d_Sc_pace_143 w_459 ?_
        refine wp_lrem d_Sc_pace_146 (by decide) ?_
        rw [show lN e - lN e / 1024 * 1024 = lN (e % 1024) from pk_lRem (by omega) (by decide) (by decide)]
        refine wp_l2i d_Sc_pace_147 ?_
        rw [lN_i]
        refine wp_ireturn d_Sc_pace_148 rfl rfl ?_
        have hp1 : e / 1024 = tg n k0 vn p (hkof hh) := (pk_lEQ (by omega) (by omega)).mp ((lg_cmp_eq _ _).mp c_117)
        have hp2 : e % 1024 ≠ 0 := fun z => c_133 ((lg_cmp_eq _ _).mpr (by rw [z]; rfl))
        have e3 := k vv kn hcok (fun _ => rfl)
        rw [px_set_id he2, px_set_id he3, fc_hk hh31, ec n k0 vn p (hkof hh) hn6 hk hv10 hp6 (hkof_lt hh) hp1 hp2] at e3
        exact e3
  · skip
    refine wp_aload_n d_Sc_pace_55 rfl rfl rfl ?_
    refine wp_aload_n d_Sc_pace_56 rfl rfl rfl ?_
    refine wp_iload_n d_Sc_pace_57 rfl rfl ?_
    refine wp_iload_n d_Sc_pace_58 rfl rfl ?_
    refine wp_callV (r := (R_3, T_3, 10)) (M' := m_Sc_reckonPace) (as := [_, _, _]) (D' := D - 1) (C1 := 0) (C2 := 0) (S1 := 0) (S2 := 0) d_Sc_pace_59 rfl w_446 w_448 w_1 he0 k_Sc_reckonPace (Nat.le_of_ble_eq_true rfl) rfl (Nat.le_of_ble_eq_true rfl) (by omega) rfl rfl ?_
    refine c_Sc_reckonPace (by omega) hk he hgd he0 hn0 he1 hcc he2 (fun vv2 => ?_)
    refine wp_ireturn d_Sc_pace_62 rfl rfl ?_
    have e3 := k vv2 kn hcok (fun _ => rfl)
    rw [px_set_id (px_set_ne (by omega) he3)] at e3
    exact e3
theorem px_stk {C S pc : Nat} {M : px_M} {ls : px_L} {st : List Value} {x y : Int32} (e : x = y) (k : px_W G D C S M pc ls (.int y :: st) h Q) : px_W G D C S M pc ls (.int x :: st) h Q := by
  rw [e]
  exact k
set_option maxRecDepth 4000 in
theorem c_Sc_pace {c tt : Nat} {n0 a0 a1 ri re pu : Int32} {m n k0 p hh vn N : Nat} {cl : List sp_Cl} {cc vv : Nat → Int32} {kn : Nat → Int64} (hD : 5 ≤ D) (hk : k0 < 7) (hv10 : vn < 10) (hn6 : n < 6) (hp6 : p < 6) (hh31 : hh < 2 ^ 31) (he : h[m]? = some (.inr (5 + k0, [.int (nI n), .int (nI vn)]))) (hgd : tc_gd cl) (he0 : h[c]? = some (.inr (3, (SCF c tt n0 a0 a1 ri re pu)))) (hn0 : n0 = nI (tc_codes cl).length) (he1 : h[c + 1]? = some (iA 100 cc)) (hcc : ∀ q t, (tc_codes cl)[q]? = some t → cc q = t) (he2 : h[c + 2]? = some (iA 6 vv)) (he3 : h[c + 3]? = some (.inl (.long, N, .inr (.inl kn)))) (hN : N = 0 ∨ N = 2304) (hcok : cok cl kn) (k : ∀ vv2 kn2, cok cl kn2 → (N = 0 → kn2 = kn) → Q (some (.int (sp_pace (fc (nI k0) (nI vn) (nI hh) n p) cl))) ((h.set (c + 2) (iA 6 vv2)).set (c + 3) (.inl (.long, N, .inr (.inl kn2))))) : px_W G D 0 0 m_Sc_pace 0 (px_ent 9 [.ref c, .ref m, .int (nI p), .int (nI hh)]) [] h Q := by
  show px_W _ _ _ _ _ _ [some (.ref c), some (.ref m), some (.int (nI p)), some (.int (nI hh)), none, none, none, none, none] [] _ _
  refine wp_iload_n d_Sc_pace_0 rfl rfl ?_
  refine wp_sipush (v := (nI 1000)) d_Sc_pace_1 (by decide) ?_
  refine wp_icmp_ge (t := 11) d_Sc_pace_4 (by decide) (fun c_4 => ?_) (fun c_4 => ?_)
  · skip
    refine wp_sipush (v := 990) d_Sc_pace_11 (by decide) ?_
    refine wp_iload_n d_Sc_pace_14 rfl rfl ?_
    refine wp_bipush (v := 10) d_Sc_pace_15 (by decide) ?_
    refine wp_irem d_Sc_pace_17 (by decide) ?_
    refine wp_iadd d_Sc_pace_18 ?_
    first
      | (have h1 : hh < 1000 := by
           have c2 := Int32.not_le.mp c_4
           exact (nI_ltI hh31 (by decide)).mp c2
         refine px_stk (show nI hh = nI (hkof hh) from by rw [hkof, if_pos h1]) ?_
         exact l_Sc_pace_19 hD hk hv10 hn6 hp6 hh31 he hgd he0 hn0 he1 hcc he2 he3 hN hcok k)
      | (have h1 : ¬ hh < 1000 := by
           have c2 := (nI_leI (by decide) hh31).mp c_4
           omega
         refine px_stk (show (990 : Int32) + (nI hh - nI hh / 10 * 10) = nI (hkof hh) from by rw [hkof, if_neg h1, show nI hh - nI hh / 10 * 10 = nI (hh % 10) from pk_rem hh31 (by decide) (by decide)]; exact nI_add 990 _) ?_
         exact l_Sc_pace_19 hD hk hv10 hn6 hp6 hh31 he hgd he0 hn0 he1 hcc he2 he3 hN hcok k)
  · skip
    refine wp_iload_n d_Sc_pace_7 rfl rfl ?_
    refine wp_goto (t := 19) d_Sc_pace_8 (by decide) ?_
    first
      | (have h1 : hh < 1000 := by
           have c2 := Int32.not_le.mp c_4
           exact (nI_ltI hh31 (by decide)).mp c2
         refine px_stk (show nI hh = nI (hkof hh) from by rw [hkof, if_pos h1]) ?_
         exact l_Sc_pace_19 hD hk hv10 hn6 hp6 hh31 he hgd he0 hn0 he1 hcc he2 he3 hN hcok k)
      | (have h1 : ¬ hh < 1000 := by
           have c2 := (nI_leI (by decide) hh31).mp c_4
           omega
         refine px_stk (show (990 : Int32) + (nI hh - nI hh / 10 * 10) = nI (hkof hh) from by rw [hkof, if_neg h1, show nI hh - nI hh / 10 * 10 = nI (hh % 10) from pk_rem hh31 (by decide) (by decide)]; exact nI_add 990 _) ?_
         exact l_Sc_pace_19 hD hk hv10 hn6 hp6 hh31 he hgd he0 hn0 he1 hcc he2 he3 hN hcok k)
end TCU
