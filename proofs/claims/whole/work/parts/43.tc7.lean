theorem sp_inc_s {hh : Nat} (h : hh < 2000000000) : sp_inc 2000000000 (nI hh) = nI (hh + 1) := by
  unfold sp_inc
  rw [if_pos (show nI hh < 2000000000 from (nI_ltI (b := 2000000000) (by omega) (by decide)).mpr h)]
  exact nI_1 hh
section TCW
variable {G : px_G} {D : Nat} {Q : Option Value → px_H → Prop} {mn : tc_mn} {sc : tc_sc} {MZ : px_H} {r : tc_r} {K : tc_K} {s : Nat} {j : Nat → Int32} {b : Nat → Nat → Int32} {w : Nat → Option Nat} {v : Nat}
/-- what a throw leaves -/
def si_gp (Q : Option Value → px_H → Prop) (MZ : px_H) (mn : tc_mn) (sc : tc_sc) (K : tc_K) (s : Nat) (w : Nat → Option Nat) (v : Nat) (j : Nat → Int32) (b : Nat → Nat → Int32) (t0 t9 : Int32) (B : Nat) (res : (Option Nat) × Int32 × (Nat → Int32) × (Nat → Int32)) : Prop := ∀ (j2 : Nat → Int32) (b2 : Nat → Nat → Int32) (r2 : tc_r), tc_R mn sc MZ r2 → ms [9, 10, 11] [1, 2] j j2 b b2 → j2 9 = t9 → b2 1 = res.2.2.1 → b2 2 = res.2.2.2 → si_h b2 B → (match res.1 with
  | none => j2 10 = j 10 + 1 → j2 11 = j 11 → Q (some (.int (res.2.1 - t0))) (HT (ks K s j2 b2 w v) MZ r2)
  | some m => m < 6 → j2 10 = j 10 → j2 11 = j 11 + 1 → Q (some (.int (-10 - nI m))) (HT (ks K s j2 b2 w v) MZ r2))
theorem si_h.up {B m hh : Nat} (h : si_h b B) (hm : m < 6) (hb : hh ≤ B) : si_h (va_up b 1 (upd (b 1) m (nI (hh + 1)))) (B + 1) := by
  intro q hq
  show ∃ h2, h2 ≤ B + 1 ∧ (if 1 = 1 then upd (b 1) m (nI (hh + 1)) else b 1) q = nI h2
  rw [if_pos rfl]
  by_cases hqm : q = m
  · exact ⟨hh + 1, by omega, if_pos hqm⟩
  · obtain ⟨h2, a1, a2⟩ := h q hq
    exact ⟨h2, by omega, (if_neg hqm).trans a2⟩
theorem si_h.mo {B C : Nat} (h : si_h b B) (hb : B ≤ C) : si_h b C := fun q hq => by
  obtain ⟨h2, a1, a2⟩ := h q hq
  exact ⟨h2, by omega, a2⟩
theorem si_h.of1 {B : Nat} {b2 : Nat → Nat → Int32} (h : si_h b B) (e : b2 1 = b 1) : si_h b2 B := fun q hq => by
  rw [e]
  exact h q hq
set_option maxRecDepth 8000 in
set_option maxHeartbeats 1000000 in
theorem l_Si_throwTube_28 {n B : Nat} {kd vd : Nat → Int32} {ln : Nat → Nat} {cl : List sp_Cl} {bt : Int32} {t0 t9 : Int32} (hD : 7 ≤ D) (hs : s < 4) (hsc : sc.1 v = some cl) (hw : si_w mn n j b w kd vd ln) (hB : B < 1999999990) : ∀ (q p : Nat) (t : Int32) (j1 : Nat → Int32) (b1 : Nat → Nat → Int32) (r1 : tc_r), p + q = n → ms [9] [1, 2] j j1 b b1 → j1 9 = t9 → tc_R mn sc MZ r1 → si_h b1 (B + p) → si_gp Q MZ mn sc K s w v j b t0 t9 (B + 6) (sp_go (kd, vd, b 3, ln, n, cl) 2000000000 q p t (b1 1) (b1 2)) → px_W G D 0 0 m_Si_throwTube 28 [some (.ref (tc_p s)), some (.int bt), some (.int t0), some (.int t), some (.int (nI p)), none, none] [] (HT (ks K s j1 b1 w v) MZ r1) Q := by
  intro q
  induction q with
  | zero =>
    intro p t j1 b1 r1 hpq hm1 h9 hR1 hh1 kk
    have hn6 := hw.1
    have h8 : j1 8 = nI n := (hm1.1 8 (by decide)).trans hw.2.1
    refine wp_iload d_Si_throwTube_28 rfl ?_
    refine wp_aload_n d_Si_throwTube_30 rfl rfl rfl ?_
    refine gS_8 hs gf_Si_50_1 d_Si_throwTube_31 ?_
    rw [h8]
    refine wp_icmp_ge (t := 177) d_Si_throwTube_34 (by decide) (fun c_34 => ?_) (fun c_34 => absurd (nI_le (by omega) (by omega)) c_34)
    refine wp_aload_n d_Si_throwTube_177 rfl rfl rfl ?_
    refine wp_dup d_Si_throwTube_178 rfl ?_
    refine gS_10 hs gf_Si_56_1 d_Si_throwTube_179 ?_
    refine wp_iconst (v := 1) d_Si_throwTube_182 rfl ?_
    refine wp_iadd d_Si_throwTube_183 ?_
    refine pS_10 hs pgf_Si_56_1 d_Si_throwTube_184 ?_
    refine wp_iload_n d_Si_throwTube_187 rfl rfl ?_
    refine wp_iload_n d_Si_throwTube_188 rfl rfl ?_
    refine wp_isub d_Si_throwTube_189 ?_
    refine wp_ireturn d_Si_throwTube_190 rfl rfl ?_
    have k2 := kk (upd j1 10 (j1 10 + 1)) b1 r1 hR1 ((hm1.mo (by decide) (by decide)).i 10 (by decide) _) h9 rfl rfl (hh1.mo (by omega))
    exact k2 (congrArg (· + 1) (hm1.1 10 (by decide))) (hm1.1 11 (by decide))
  | succ q ih =>
    intro p t j1 b1 r1 hpq hm1 h9 hR1 hh1 kk
    have hn6 := hw.1
    have h8 : j1 8 = nI n := (hm1.1 8 (by decide)).trans hw.2.1
    obtain ⟨hl6, hb4, pm, k0, vn, hwm, hmm, hkd, hvd⟩ := (hw.ms hm1 (by decide) (by decide)).2.2 p (by omega)
    obtain ⟨hh, hhB, hb1⟩ := hh1 (ln p) hl6
    obtain ⟨hk, hnn6, hv10, -⟩ := hR1.2.1 pm k0 (ln p) vn hmm
    have hvv : ¬ nI vn + 2 = 0 := fun z => by
      rw [show nI vn + 2 = nI (vn + 2) from nI_add vn 2] at z
      exact nI_ne0 (by omega) (by omega) z
    refine wp_iload d_Si_throwTube_28 rfl ?_
    refine wp_aload_n d_Si_throwTube_30 rfl rfl rfl ?_
    refine gS_8 hs gf_Si_50_1 d_Si_throwTube_31 ?_
    rw [h8]
    refine wp_icmp_ge (t := 177) d_Si_throwTube_34 (by decide) (fun c_34 => absurd c_34 (nI_ge (by omega) (by omega))) (fun c_34 => ?_)
    refine wp_aload_n d_Si_throwTube_37 rfl rfl rfl ?_
    refine gS_4 hs gf_Si_27_1 d_Si_throwTube_38 ?_
    refine wp_iload d_Si_throwTube_41 rfl ?_
    refine lS_4 hs d_Si_throwTube_43 (vp_in_nI (by omega) (by decide)) ?_
    rw [nI_clamp (by omega), hb4]
    refine wp_istore (ls' := [_, _, _, _, _, _, _]) d_Si_throwTube_44 (by decide) rfl ?_
    refine wp_iload_n d_Si_throwTube_46 rfl rfl ?_
    refine wp_aload_n d_Si_throwTube_47 rfl rfl rfl ?_
    refine gS_2 hs gf_Si_21_1 d_Si_throwTube_48 ?_
    refine wp_iload d_Si_throwTube_51 rfl ?_
    refine lS_2 hs d_Si_throwTube_53 (vp_in_nI (by omega) (by decide)) ?_
    rw [nI_clamp (by omega)]
    refine wp_icmp_ge (t := 73) d_Si_throwTube_54 (by decide) (fun c_54 => ?_) (fun c_54 => ?_)
    · skip
      have cN : ¬ t < b1 2 (ln p) := Int32.not_lt.mpr c_54
      refine wp_aload_n d_Si_throwTube_73 rfl rfl rfl ?_
      refine gS_0 hs gf_Si_11_1 d_Si_throwTube_74 ?_
      refine wp_iload d_Si_throwTube_77 rfl ?_
      refine lS_0 hs d_Si_throwTube_79 (vp_in_nI (by omega) (by decide)) ?_
      rw [nI_clamp (by omega), hwm]
      show px_W _ _ _ _ _ _ _ (.ref pm :: _) _ _
      refine wp_aload_n d_Si_throwTube_80 rfl rfl rfl ?_
      refine gS_1 hs gf_Si_17_1 d_Si_throwTube_81 ?_
      refine wp_iload d_Si_throwTube_84 rfl ?_
      refine lS_1 hs d_Si_throwTube_86 (vp_in_nI (by omega) (by decide)) ?_
      rw [nI_clamp (by omega), hb1]
      refine v_slips rfl hk (hR1.man hmm) d_Si_throwTube_87 (Nat.le_of_ble_eq_true rfl) (by omega) hvv (fun hsl => ?_) (fun hsl => ?_)
      · skip
        refine wp_if_eq (t := 120) d_Si_throwTube_90 (by decide) (fun c_90 => (absurd c_90 (by decide))) (fun c_90 => ?_)
        refine wp_aload_n d_Si_throwTube_93 rfl rfl rfl ?_
        refine gS_1 hs gf_Si_17_1 d_Si_throwTube_94 ?_
        refine wp_iload d_Si_throwTube_97 rfl ?_
        refine wp_dup2 d_Si_throwTube_99 rfl rfl ?_
        refine lS_1 hs d_Si_throwTube_100 (vp_in_nI (by omega) (by decide)) ?_
        rw [nI_clamp (by omega), hb1]
        refine wp_iconst (v := 1) d_Si_throwTube_101 rfl ?_
        refine wp_iadd d_Si_throwTube_102 ?_
        rw [show nI hh + 1 = nI (hh + 1) from nI_1 hh]
        refine sS_1 hs d_Si_throwTube_103 (vp_in_nI (by omega) (by decide)) ?_
        rw [nI_clamp (by omega)]
        refine wp_aload_n d_Si_throwTube_104 rfl rfl rfl ?_
        refine wp_dup d_Si_throwTube_105 rfl ?_
        refine gS_11 hs gf_Si_59_1 d_Si_throwTube_106 ?_
        refine wp_iconst (v := 1) d_Si_throwTube_109 rfl ?_
        refine wp_iadd d_Si_throwTube_110 ?_
        refine pS_11 hs pgf_Si_59_1 d_Si_throwTube_111 ?_
        refine wp_bipush (v := (-10)) d_Si_throwTube_114 (by decide) ?_
        refine wp_iload d_Si_throwTube_116 rfl ?_
        refine wp_isub d_Si_throwTube_118 ?_
        refine wp_ireturn d_Si_throwTube_119 rfl rfl ?_
        have hgo : sp_go (kd, vd, b 3, ln, n, cl) 2000000000 (q + 1) p t (b1 1) (b1 2) = (some (ln p), t, upd (b1 1) (ln p) (nI (hh + 1)), b1 2) := by
          rw [← sp_inc_s (by omega : hh < 2000000000), ← hb1]
          refine sp_go_l cN ⟨?_, ?_⟩
          · show kd (ln p) = 5
            rw [hkd]; exact hsl.1
          · show (b1 1 (ln p) + 1) - (b1 1 (ln p) + 1) / (vd (ln p) + 2) * (vd (ln p) + 2) = 0
            rw [hvd, hb1]; exact hsl.2
        have k2 := kk (upd j1 11 (j1 11 + 1)) (va_up b1 1 (upd (b1 1) (ln p) (nI (hh + 1)))) r1 hR1 (((hm1.mo (by decide) (by decide)).i 11 (by decide) _).a 1 (by decide) _) h9
        rw [hgo] at k2
        exact k2 rfl rfl ((hh1.up hl6 hhB).mo (by omega)) hl6 (hm1.1 10 (by decide)) (congrArg (· + 1) (hm1.1 11 (by decide)))
      · skip
        refine wp_if_eq (t := 120) d_Si_throwTube_90 (by decide) (fun c_90 => ?_) (fun c_90 => (absurd c_90 (by decide)))
        refine wp_aload_n d_Si_throwTube_120 rfl rfl rfl ?_
        refine wp_iload d_Si_throwTube_121 rfl ?_
        refine wp_callV (r := (R_1, T_1, 15)) (M' := m_Si_holdsAt) (as := [_]) (D' := D - 1) (C1 := 0) (C2 := 0) (S1 := 0) (S2 := 0) d_Si_throwTube_123 rfl w_690 w_461 w_462 (ts_0 hs) k_Si_holdsAt (Nat.le_of_ble_eq_true rfl) rfl (Nat.le_of_ble_eq_true rfl) (by omega) rfl rfl ?_
        refine c_Si_holdsAt (by omega) hs hR1 hsc (hw.ms hm1 (by decide) (by decide)) (by omega) hh1 (by omega) (fun r2 hR2 => ?_)
        obtain ⟨fs, hfs, hv7, hv8, -⟩ := hR2.sca (K := ks K s j1 b1 w v) hsc
        rw [hm1.2 3 (by decide)]
        obtain ⟨fs3, hfs3, hw7, hw8, -⟩ := hR2.sca (K := ks K s j1 (va_up b1 1 (upd (b1 1) (ln p) (nI (hh + 1)))) w v) hsc
        obtain ⟨fs4, hfs4, hx7, hx8, -⟩ := hR2.sca (K := ks K s j1 (va_up (va_up b1 1 (upd (b1 1) (ln p) (nI (hh + 1)))) 2 (upd ((va_up b1 1 (upd (b1 1) (ln p) (nI (hh + 1)))) 2) (ln p) (t + sp_hold (kd, vd, b 3, ln, n, cl) (b1 1) p + sp_rest cl))) w v) hsc
        refine wp_istore (ls' := [_, _, _, _, _, _, _]) d_Si_throwTube_126 (by decide) rfl ?_
        refine wp_aload_n d_Si_throwTube_128 rfl rfl rfl ?_
        refine gS_1 hs gf_Si_17_1 d_Si_throwTube_129 ?_
        refine wp_iload d_Si_throwTube_132 rfl ?_
        refine wp_dup2 d_Si_throwTube_134 rfl rfl ?_
        refine lS_1 hs d_Si_throwTube_135 (vp_in_nI (by omega) (by decide)) ?_
        rw [nI_clamp (by omega), hb1]
        refine wp_iconst (v := 1) d_Si_throwTube_136 rfl ?_
        refine wp_iadd d_Si_throwTube_137 ?_
        rw [show nI hh + 1 = nI (hh + 1) from nI_1 hh]
        refine sS_1 hs d_Si_throwTube_138 (vp_in_nI (by omega) (by decide)) ?_
        rw [nI_clamp (by omega)]
        refine wp_aload_n d_Si_throwTube_139 rfl rfl rfl ?_
        refine gS_2 hs gf_Si_21_1 d_Si_throwTube_140 ?_
        refine wp_iload d_Si_throwTube_143 rfl ?_
        refine wp_iload_n d_Si_throwTube_145 rfl rfl ?_
        refine wp_iload d_Si_throwTube_146 rfl ?_
        refine wp_iadd d_Si_throwTube_148 ?_
        refine wp_aload_n d_Si_throwTube_149 rfl rfl rfl ?_
        refine gS_14 hs gf_Si_36_1 d_Si_throwTube_150 ?_
        refine wp_getf d_Si_throwTube_153 gf_Si_96_3 hfs3 hw8 ?_
        refine wp_iadd d_Si_throwTube_156 ?_
        refine sS_2 hs d_Si_throwTube_157 (vp_in_nI (by omega) (by decide)) ?_
        rw [nI_clamp (by omega)]
        refine wp_iload_n d_Si_throwTube_158 rfl rfl ?_
        refine wp_iload d_Si_throwTube_159 rfl ?_
        refine wp_aload_n d_Si_throwTube_161 rfl rfl rfl ?_
        refine gS_14 hs gf_Si_36_1 d_Si_throwTube_162 ?_
        refine wp_getf d_Si_throwTube_165 gf_Si_85_3 hfs4 hx7 ?_
        refine wp_iadd d_Si_throwTube_168 ?_
        refine wp_iadd d_Si_throwTube_169 ?_
        refine wp_istore_n (ls' := [_, _, _, _, _, _, _]) d_Si_throwTube_170 rfl (by decide) rfl ?_
        refine wp_iinc (v := _ + 1) (ls' := [_, _, _, _, _, _, _]) d_Si_throwTube_171 (by decide) rfl rfl rfl ?_
        refine wp_goto (t := 28) d_Si_throwTube_174 (by decide) ?_
        rw [show nI p + 1 = nI (p + 1) from nI_1 p]
        have hgo : sp_go (kd, vd, b 3, ln, n, cl) 2000000000 (q + 1) p t (b1 1) (b1 2) = sp_go (kd, vd, b 3, ln, n, cl) 2000000000 q (p + 1) (t + (sp_hold (kd, vd, b 3, ln, n, cl) (b1 1) p + sp_rise cl)) (upd (b1 1) (ln p) (nI (hh + 1))) (upd (b1 2) (ln p) (t + sp_hold (kd, vd, b 3, ln, n, cl) (b1 1) p + sp_rest cl)) := by
          rw [← sp_inc_s (by omega : hh < 2000000000), ← hb1]
          refine sp_go_s cN (fun z => hsl ⟨?_, ?_⟩)
          · rw [← hkd]; exact z.1
          · rw [← hvd, ← hb1]; exact z.2
        rw [hgo] at kk
        refine wp_less (ls' := [some (.ref (tc_p s)), some (.int bt), some (.int t0), some (.int (t + (sp_hold (kd, vd, b 3, ln, n, cl) (b1 1) p + sp_rise cl))), some (.int (nI (p + 1))), none, none]) ⟨rfl, rfl, rfl, rfl, rfl, trivial⟩ ?_
        exact ih (p + 1) _ j1 _ r2 (by omega) ((hm1.a 1 (by decide) _).a 2 (by decide) _) h9 hR2 (((hh1.up hl6 hhB).of1 rfl).mo (by omega)) kk
    · skip
      refine wp_aload_n d_Si_throwTube_57 rfl rfl rfl ?_
      refine wp_dup d_Si_throwTube_58 rfl ?_
      refine gS_11 hs gf_Si_59_1 d_Si_throwTube_59 ?_
      refine wp_iconst (v := 1) d_Si_throwTube_62 rfl ?_
      refine wp_iadd d_Si_throwTube_63 ?_
      refine pS_11 hs pgf_Si_59_1 d_Si_throwTube_64 ?_
      refine wp_bipush (v := (-10)) d_Si_throwTube_67 (by decide) ?_
      refine wp_iload d_Si_throwTube_69 rfl ?_
      refine wp_isub d_Si_throwTube_71 ?_
      refine wp_ireturn d_Si_throwTube_72 rfl rfl ?_
      have hgo : sp_go (kd, vd, b 3, ln, n, cl) 2000000000 (q + 1) p t (b1 1) (b1 2) = (some (ln p), t, b1 1, b1 2) := sp_go_f (Int32.not_le.mp c_54)
      have k2 := kk (upd j1 11 (j1 11 + 1)) b1 r1 hR1 ((hm1.mo (by decide) (by decide)).i 11 (by decide) _) h9
      rw [hgo] at k2
      exact k2 rfl rfl (hh1.mo (by omega)) hl6 (hm1.1 10 (by decide)) (congrArg (· + 1) (hm1.1 11 (by decide)))
set_option maxRecDepth 4000 in
theorem c_Si_throwTube {n B : Nat} {kd vd : Nat → Int32} {ln : Nat → Nat} {cl : List sp_Cl} {bt : Int32} (hD : 7 ≤ D) (hs : s < 4) (hsc : sc.1 v = some cl) (hw : si_w mn n j b w kd vd ln) (hB : B < 1999999990) (hR : tc_R mn sc MZ r) (hh0 : si_h b B) (k : si_gp Q MZ mn sc K s w v j b (j 9) (j 9 + bt) (B + 6) (sp_throw (kd, vd, b 3, ln, n, cl) 2000000000 (j 9) (b 1) (b 2))) : px_W G D 0 0 m_Si_throwTube 0 (px_ent 7 [.ref (tc_p s), .int bt]) [] (HT (ks K s j b w v) MZ r) Q := by
  obtain ⟨fs, hfs, hv7, hv8, -⟩ := hR.sca (K := ks K s j b w v) hsc
  show px_W _ _ _ _ _ _ [some (.ref (tc_p s)), some (.int bt), none, none, none, none, none] [] _ _
  refine wp_aload_n d_Si_throwTube_0 rfl rfl rfl ?_
  refine gS_9 hs gf_Si_53_1 d_Si_throwTube_1 ?_
  refine wp_istore_n (ls' := [_, _, _, _, _, _, _]) d_Si_throwTube_4 rfl (by decide) rfl ?_
  refine wp_iload_n d_Si_throwTube_5 rfl rfl ?_
  refine wp_aload_n d_Si_throwTube_6 rfl rfl rfl ?_
  refine gS_14 hs gf_Si_36_1 d_Si_throwTube_7 ?_
  refine wp_getf d_Si_throwTube_10 gf_Si_85_3 hfs hv7 ?_
  refine wp_iadd d_Si_throwTube_13 ?_
  refine wp_istore_n (ls' := [_, _, _, _, _, _, _]) d_Si_throwTube_14 rfl (by decide) rfl ?_
  refine wp_aload_n d_Si_throwTube_15 rfl rfl rfl ?_
  refine wp_dup d_Si_throwTube_16 rfl ?_
  refine gS_9 hs gf_Si_53_1 d_Si_throwTube_17 ?_
  refine wp_iload_n d_Si_throwTube_20 rfl rfl ?_
  refine wp_iadd d_Si_throwTube_21 ?_
  refine pS_9 hs pgf_Si_53_1 d_Si_throwTube_22 ?_
  refine wp_iconst (v := (nI 0)) d_Si_throwTube_25 rfl ?_
  refine wp_istore (ls' := [_, _, _, _, _, _, _]) d_Si_throwTube_26 (by decide) rfl ?_
  refine l_Si_throwTube_28 (t9 := j 9 + bt) hD hs hsc hw hB n 0 (j 9 + sp_rise cl) (upd j 9 (j 9 + bt)) b r (Nat.zero_add n) (ms.rf.i 9 (by decide) _) rfl hR hh0 ?_
  intro j2 b2 r2 hR2 hm2 h92 e1 e2 hh2
  exact k j2 b2 r2 hR2 hm2 h92 e1 e2 hh2
end TCW
