/-! WHAT IS MADE LATER: scaffolds and men, told by mn (a man's KIND, number, v) and sc (a scaffold's clauses) -/
abbrev tc_r : Type := (Nat → Int32) × px_H
abbrev tc_mn : Type := Nat → Option (Nat × Nat × Nat)
/-- scaffolds in use, with their clauses; and one that is made and not in use -/
abbrev tc_sc : Type := (Nat → Option (List sp_Cl)) × (Nat → Bool)
abbrev kA (kn : Nat → Int64) : px_E := .inl (.long, 2304, .inr (.inl kn))
def sc_at (E : px_H) (i : Nat) (cl : List sp_Cl) : Prop := tc_gd cl ∧ ∃ (tt : Nat) (a0 a1 : Int32) (cc vv : Nat → Int32) (kn : Nat → Int64), E[i]? = some (.inr (3, SCF (97 + i) tt (nI (tc_codes cl).length) a0 a1 (sp_rise cl) (sp_rest cl) (sp_pull cl))) ∧ E[i + 1]? = some (iA 100 cc) ∧ (∀ q t, (tc_codes cl)[q]? = some t → cc q = t) ∧ E[i + 2]? = some (iA 6 vv) ∧ E[i + 3]? = some (kA kn) ∧ cok cl kn
def sg_at (E : px_H) (i : Nat) : Prop := ∃ (tt : Nat) (n0 a0 a1 ri re pu : Int32) (cc vv : Nat → Int32), E[i]? = some (.inr (3, SCF (97 + i) tt n0 a0 a1 ri re pu)) ∧ E[i + 1]? = some (iA 100 cc) ∧ E[i + 2]? = some (iA 6 vv) ∧ E[i + 3]? = some (kA fun _ => 0)
def tc_R (mn : tc_mn) (sc : tc_sc) (MZ : px_H) (r : tc_r) : Prop := MZ.length = 39 ∧ (∀ m k n v, mn m = some (k, n, v) → k < 7 ∧ n < 6 ∧ v < 10 ∧ ∃ i, m = 97 + i ∧ r.2[i]? = some (.inr (5 + k, [.int (nI n), .int (nI v)]))) ∧ (∀ c cl, sc.1 c = some cl → (c = 1 ∧ cl = []) ∨ ∃ i, c = 97 + i ∧ sc_at r.2 i cl) ∧ ∀ c, sc.2 c = true → sc.1 c = none ∧ ∃ i, c = 97 + i ∧ sg_at r.2 i
theorem tc_R.man {mn : tc_mn} {sc : tc_sc} {MZ : px_H} {r : tc_r} {K : tc_K} (h : tc_R mn sc MZ r) {m k n v : Nat} (hm : mn m = some (k, n, v)) : (HT K MZ r)[m]? = some (.inr (5 + k, [.int (nI n), .int (nI v)])) := by
  obtain ⟨-, -, -, i, rfl, e⟩ := h.2.1 m k n v hm
  rw [ht_E h.1]
  exact e
/-- two cells of a scaffold are others: all else stands -/
theorem tc_R.two {mn : tc_mn} {sc : tc_sc} {MZ : px_H} {r : tc_r} (h : tc_R mn sc MZ r) {i : Nat} {cl : List sp_Cl} {vv kn0} (hc : sc.1 (97 + i) = some cl) (e2 : r.2[i + 2]? = some (iA 6 vv)) (e3 : r.2[i + 3]? = some (kA kn0)) (vv2 : Nat → Int32) (kn2 : Nat → Int64) (hk : cok cl kn2) : tc_R mn sc MZ (r.1, (r.2.set (i + 2) (iA 6 vv2)).set (i + 3) (kA kn2)) := by
  have l2 := (List.getElem?_eq_some_iff.mp e2).1
  have l3 := (List.getElem?_eq_some_iff.mp e3).1
  have get : ∀ q, q ≠ i + 2 → q ≠ i + 3 → ((r.2.set (i + 2) (iA 6 vv2)).set (i + 3) (kA kn2))[q]? = r.2[q]? := fun q a1 a2 => by
    rw [List.getElem?_set_ne (Ne.symm a2), List.getElem?_set_ne (Ne.symm a1)]
  refine ⟨h.1, fun m k n v hm => ?_, fun c cl' hcl => ?_, fun c hg => ?_⟩
  · obtain ⟨g1, g2, g3, q, rfl, e⟩ := h.2.1 m k n v hm
    refine ⟨g1, g2, g3, q, rfl, ?_⟩
    rw [get q (fun z => by rw [z, e2] at e; cases e) (fun z => by rw [z, e3] at e; cases e)]
    exact e
  · rcases h.2.2.1 c cl' hcl with h1 | ⟨q, rfl, gd, tt, a0, a1, cc, vq, kq, f0, f1, f2, f3, f4, f5⟩
    · exact Or.inl h1
    · refine Or.inr ⟨q, rfl, gd, ?_⟩
      have g0 := get q (fun z => by rw [z, e2] at f0; cases f0) (fun z => by rw [z, e3] at f0; cases f0)
      have g1 := get (q + 1) (fun z => by rw [z, e2] at f1; cases f1) (fun z => by rw [z, e3] at f1; cases f1)
      by_cases hq : q = i
      · subst hq
        have hcc : cl' = cl := Option.some.inj (hcl.symm.trans hc)
        subst hcc
        refine ⟨tt, a0, a1, cc, vv2, kn2, g0.trans f0, g1.trans f1, f2, ?_, ?_, hk⟩
        · rw [List.getElem?_set_ne (by omega), List.getElem?_set_self l2]
        · rw [List.getElem?_set_self (by rw [List.length_set]; exact l3)]
      · have g2 := get (q + 2) (by omega) (fun z => by rw [z, e3] at f3; cases f3)
        have g3 := get (q + 3) (fun z => by rw [z, e2] at f4; cases f4) (by omega)
        exact ⟨tt, a0, a1, cc, vq, kq, g0.trans f0, g1.trans f1, f2, g2.trans f3, g3.trans f4, f5⟩
  · obtain ⟨hn, q, rfl, tt, n0, a0, a1, ri, re, pu, cc, vq, f0, f1, f3, f4⟩ := h.2.2.2 c hg
    have hq : q ≠ i := fun z => by rw [z, hc] at hn; cases hn
    have g0 := get q (fun z => by rw [z, e2] at f0; cases f0) (fun z => by rw [z, e3] at f0; cases f0)
    have g1 := get (q + 1) (fun z => by rw [z, e2] at f1; cases f1) (fun z => by rw [z, e3] at f1; cases f1)
    have g2 := get (q + 2) (by omega) (fun z => by rw [z, e3] at f3; cases f3)
    have g3 := get (q + 3) (fun z => by rw [z, e2] at f4; cases f4) (by omega)
    exact ⟨hn, q, rfl, tt, n0, a0, a1, ri, re, pu, cc, vq, g0.trans f0, g1.trans f1, g2.trans f3, g3.trans f4⟩
theorem tc_R.one {mn : tc_mn} {sc : tc_sc} {MZ : px_H} {r : tc_r} (h : tc_R mn sc MZ r) (pv : Nat → Int32) : tc_R mn sc MZ (pv, r.2) := h
/-- what a scaffold in use says -/
theorem tc_R.sca {mn : tc_mn} {sc : tc_sc} {MZ : px_H} {r : tc_r} {K : tc_K} (h : tc_R mn sc MZ r) {c : Nat} {cl : List sp_Cl} (hc : sc.1 c = some cl) : ∃ fs, (HT K MZ r)[c]? = some (.inr (3, fs)) ∧ fs[7]? = some (.int (sp_rise cl)) ∧ fs[8]? = some (.int (sp_rest cl)) ∧ fs[9]? = some (.int (sp_pull cl)) := by
  rcases h.2.2.1 c cl hc with ⟨rfl, rfl⟩ | ⟨i, rfl, -, tt, a0, a1, cc, vv, kn, f0, -⟩
  · exact ⟨_, ht_lo rfl, rfl, rfl, rfl⟩
  · exact ⟨_, by rw [ht_E h.1]; exact f0, rfl, rfl, rfl⟩
section TCV
variable {G : px_G} {D : Nat} {Q : Option Value → px_H → Prop} {mn : tc_mn} {sc : tc_sc} {MZ : px_H} {r : tc_r} {K : tc_K}
theorem c_pace {c m k0 n vn p hh : Nat} {cl : List sp_Cl} (hD : 5 ≤ D) (hR : tc_R mn sc MZ r) (hm : mn m = some (k0, n, vn)) (hc : sc.1 c = some cl) (hp6 : p < 6) (hh31 : hh < 2 ^ 31) (k : ∀ r2 : tc_r, tc_R mn sc MZ r2 → Q (some (.int (sp_pace (fc (nI k0) (nI vn) (nI hh) n p) cl))) (HT K MZ r2)) : px_W G D 0 0 m_Sc_pace 0 (px_ent 9 [.ref c, .ref m, .int (nI p), .int (nI hh)]) [] (HT K MZ r) Q := by
  obtain ⟨hk7, hn6, hv10, -⟩ := hR.2.1 m k0 n vn hm
  rcases hR.2.2.1 c cl hc with ⟨rfl, rfl⟩ | ⟨i, rfl, gd, tt, a0, a1, cc, vv, kn, f0, f1, f2, f3, f4, f5⟩
  · refine c_Sc_pace (c := 1) (tt := 5) (n0 := 0) (a0 := 0) (a1 := 0) (ri := 5) (re := 3) (pu := 40) (cl := []) (cc := fun _ => 0) (vv := r.1) (kn := fun _ => 0) (N := 0) hD hk7 hv10 hn6 hp6 hh31 (hR.man hm) ⟨by decide, by decide, fun _ h => by cases h⟩ (ht_lo rfl) rfl (ht_lo rfl) (fun q t h => by cases h) (ht_lo rfl) (ht_lo rfl) (Or.inl rfl) (cok_0 []) (fun vv2 kn2 hck hz => ?_)
    rw [hz rfl, show (HT K MZ r).set (1 + 2) (iA 6 vv2) = HT K MZ (vv2, r.2) from ht_st (K' := K) (pv' := vv2) (by decide) rfl, px_set_id (ht_lo rfl)]
    exact k _ (hR.one vv2)
  · have E := fun q => ht_E (K := K) (r := r) (i := q) hR.1
    refine c_Sc_pace (N := 2304) hD hk7 hv10 hn6 hp6 hh31 (hR.man hm) gd ((E i).trans f0) rfl (by rw [Nat.add_assoc]; exact (E (i + 1)).trans f1) f2 (by rw [Nat.add_assoc]; exact (E (i + 2)).trans f3) (by rw [Nat.add_assoc]; exact (E (i + 3)).trans f4) (Or.inr rfl) f5 (fun vv2 kn2 hck _ => ?_)
    rw [Nat.add_assoc, Nat.add_assoc, ht_sE hR.1, ht_sE hR.1]
    exact k _ (hR.two hc f3 f4 vv2 kn2 hck)
/-- a site's chain: n places, told by ln; kinds and vs by men's numbers -/
def si_w (mn : tc_mn) (n : Nat) (j : Nat → Int32) (b : Nat → Nat → Int32) (w : Nat → Option Nat) (kd vd : Nat → Int32) (ln : Nat → Nat) : Prop := n ≤ 6 ∧ j 8 = nI n ∧ ∀ p, p < n → ln p < 6 ∧ b 4 p = nI (ln p) ∧ ∃ pm k v, w (ln p) = some pm ∧ mn pm = some (k, ln p, v) ∧ kd (ln p) = nI k ∧ vd (ln p) = nI v
def si_h (b : Nat → Nat → Int32) (B : Nat) : Prop := ∀ m, m < 6 → ∃ hh, hh ≤ B ∧ b 1 m = nI hh
theorem si_w.ms {SI SA : List Nat} {n : Nat} {j j1 : Nat → Int32} {b b1 : Nat → Nat → Int32} {w : Nat → Option Nat} {kd vd : Nat → Int32} {ln : Nat → Nat} (h : si_w mn n j b w kd vd ln) (hm : ms SI SA j j1 b b1) (h8 : 8 ∉ SI) (h4 : 4 ∉ SA) : si_w mn n j1 b1 w kd vd ln := by
  refine ⟨h.1, (hm.1 8 h8).trans h.2.1, ?_⟩
  rw [hm.2 4 h4]
  exact h.2.2
set_option maxRecDepth 4000 in
theorem c_Si_holdsAt {s : Nat} {j : Nat → Int32} {b : Nat → Nat → Int32} {w : Nat → Option Nat} {v : Nat} {n p B : Nat} {kd vd : Nat → Int32} {ln : Nat → Nat} {cl : List sp_Cl} (hD : 6 ≤ D) (hs : s < 4) (hR : tc_R mn sc MZ r) (hsc : sc.1 v = some cl) (hw : si_w mn n j b w kd vd ln) (hp : p < n) (hh0 : si_h b B) (hB : B < 2000000000) (k : ∀ r2 : tc_r, tc_R mn sc MZ r2 → Q (some (.int (sp_hold (kd, vd, b 3, ln, n, cl) (b 1) p))) (HT (ks K s j b w v) MZ r2)) : px_W G D 0 0 m_Si_holdsAt 0 (px_ent 4 [.ref (tc_p s), .int (nI p)]) [] (HT (ks K s j b w v) MZ r) Q := by
  obtain ⟨hn6, h8, hln⟩ := hw
  obtain ⟨hl6, hb4, pm, k0, vn, hwm, hmm, hkd, hvd⟩ := hln p hp
  obtain ⟨hh, hhB, hb1⟩ := hh0 (ln p) hl6
  obtain ⟨hk, hnn6, hv10, -⟩ := hR.2.1 pm k0 (ln p) vn hmm
  have hsc0 : ∀ r, tc_R mn sc MZ r → ∃ fs, (HT (ks K s j b w v) MZ r)[v]? = some (.inr (3, fs)) := fun r h => by
    obtain ⟨fs, e, -⟩ := h.sca (K := ks K s j b w v) hsc
    exact ⟨fs, e⟩
  obtain ⟨fs0, hfs0⟩ := hsc0 r hR
  show px_W _ _ _ _ _ _ [some (.ref (tc_p s)), some (.int (nI p)), none, none] [] _ _
  refine wp_iload_n d_Si_holdsAt_0 rfl rfl ?_
  refine wp_if_lt (t := 12) d_Si_holdsAt_1 (by decide) (fun c_1 => absurd c_1 (nI_pos (by omega))) (fun c_1 => ?_)
  refine wp_iload_n d_Si_holdsAt_4 rfl rfl ?_
  refine wp_aload_n d_Si_holdsAt_5 rfl rfl rfl ?_
  refine gS_8 hs gf_Si_50_1 d_Si_holdsAt_6 ?_
  rw [h8]
  refine wp_icmp_lt (t := 14) d_Si_holdsAt_9 (by decide) (fun c_9 => ?_) (fun c_9 => absurd ((nI_ltI (by omega) (by omega)).mpr hp) c_9)
  refine wp_aload_n d_Si_holdsAt_14 rfl rfl rfl ?_
  refine gS_4 hs gf_Si_27_1 d_Si_holdsAt_15 ?_
  refine wp_iload_n d_Si_holdsAt_18 rfl rfl ?_
  refine lS_4 hs d_Si_holdsAt_19 (vp_in_nI (by omega) (by decide)) ?_
  rw [nI_clamp (by omega), hb4]
  refine wp_istore_n (ls' := [_, _, _, _]) d_Si_holdsAt_20 rfl (by decide) rfl ?_
  refine wp_aload_n d_Si_holdsAt_21 rfl rfl rfl ?_
  refine gS_14 hs gf_Si_36_1 d_Si_holdsAt_22 ?_
  refine wp_aload_n d_Si_holdsAt_25 rfl rfl rfl ?_
  refine gS_0 hs gf_Si_11_1 d_Si_holdsAt_26 ?_
  refine wp_iload_n d_Si_holdsAt_29 rfl rfl ?_
  refine lS_0 hs d_Si_holdsAt_30 (vp_in_nI (by omega) (by decide)) ?_
  rw [nI_clamp (by omega), hwm]
  show px_W _ _ _ _ _ _ _ (.ref pm :: _) _ _
  refine wp_iload_n d_Si_holdsAt_31 rfl rfl ?_
  refine wp_aload_n d_Si_holdsAt_32 rfl rfl rfl ?_
  refine gS_1 hs gf_Si_17_1 d_Si_holdsAt_33 ?_
  refine wp_iload_n d_Si_holdsAt_36 rfl rfl ?_
  refine lS_1 hs d_Si_holdsAt_37 (vp_in_nI (by omega) (by decide)) ?_
  rw [nI_clamp (by omega), hb1]
  refine wp_callV (r := (R_3, T_3, 10)) (M' := m_Sc_pace) (as := [_, _, _]) (D' := D - 1) (C1 := 0) (C2 := 0) (S1 := 0) (S2 := 0) d_Si_holdsAt_38 rfl w_442 w_443 w_444 hfs0 k_Sc_pace (Nat.le_of_ble_eq_true rfl) rfl (Nat.le_of_ble_eq_true rfl) (by omega) rfl rfl ?_
  refine c_pace (by omega) hR hmm hsc (by omega) (by omega) (fun r2 hR2 => ?_)
  refine wp_istore_n (ls' := [_, _, _, _]) d_Si_holdsAt_41 rfl (by decide) rfl ?_
  refine wp_aload_n d_Si_holdsAt_42 rfl rfl rfl ?_
  refine gS_0 hs gf_Si_11_1 d_Si_holdsAt_43 ?_
  refine wp_iload_n d_Si_holdsAt_46 rfl rfl ?_
  refine lS_0 hs d_Si_holdsAt_47 (vp_in_nI (by omega) (by decide)) ?_
  rw [nI_clamp (by omega), hwm]
  show px_W _ _ _ _ _ _ _ (.ref pm :: _) _ _
  refine wp_iload_n d_Si_holdsAt_48 rfl rfl ?_
  refine wp_aload_n d_Si_holdsAt_49 rfl rfl rfl ?_
  refine gS_1 hs gf_Si_17_1 d_Si_holdsAt_50 ?_
  refine wp_iload_n d_Si_holdsAt_53 rfl rfl ?_
  refine lS_1 hs d_Si_holdsAt_54 (vp_in_nI (by omega) (by decide)) ?_
  rw [nI_clamp (by omega), hb1]
  refine wp_aload_n d_Si_holdsAt_55 rfl rfl rfl ?_
  refine gS_3 hs gf_Si_24_1 d_Si_holdsAt_56 ?_
  refine wp_iload_n d_Si_holdsAt_59 rfl rfl ?_
  refine wp_iconst (v := 4) d_Si_holdsAt_60 rfl ?_
  refine wp_imul d_Si_holdsAt_61 ?_
  refine wp_aload_n d_Si_holdsAt_62 rfl rfl rfl ?_
  refine gS_1 hs gf_Si_17_1 d_Si_holdsAt_63 ?_
  refine wp_iload_n d_Si_holdsAt_66 rfl rfl ?_
  refine lS_1 hs d_Si_holdsAt_67 (vp_in_nI (by omega) (by decide)) ?_
  rw [nI_clamp (by omega), hb1]
  refine wp_iconst (v := 4) d_Si_holdsAt_68 rfl ?_
  refine wp_irem d_Si_holdsAt_69 (by decide) ?_
  refine wp_iadd d_Si_holdsAt_70 ?_
  rw [show nI (ln p) * 4 + (nI hh - nI hh / 4 * 4) = nI (4 * ln p + hh % 4) from by rw [show nI hh - nI hh / 4 * 4 = nI (hh % 4) from pk_rem (by omega) (by decide) (by decide), show nI (ln p) * 4 = nI (ln p * 4) from pk_mul _ 4, nI_add, Nat.mul_comm]]
  refine lS_3 hs d_Si_holdsAt_71 (vp_in_nI (by omega) (by decide)) ?_
  rw [nI_clamp (by omega)]
  refine v_holds rfl hk (hR2.man hmm) d_Si_holdsAt_72 (Nat.le_of_ble_eq_true rfl) (by omega) ?_
  refine wp_ireturn d_Si_holdsAt_75 rfl rfl ?_
  have e : sp_hold (kd, vd, b 3, ln, n, cl) (b 1) p = sp_holds (nI k0) (nI vn) (nI hh) (b 3 (4 * ln p + hh % 4)) (sp_pace (fc (nI k0) (nI vn) (nI hh) (ln p) p) cl) := by
    show sp_holds (kd (ln p)) (vd (ln p)) (b 1 (ln p)) (b 3 (4 * ln p + (b 1 (ln p)).toNatClampNeg % 4)) (sp_pace (sp_fact kd vd (b 1) (ln p) p) cl) = _
    rw [fc_sp, hkd, hvd, hb1, nI_clamp (by omega)]
  rw [← e]
  exact k r2 hR2
set_option maxRecDepth 4000 in
theorem c_Si_paceAt {s : Nat} {j : Nat → Int32} {b : Nat → Nat → Int32} {w : Nat → Option Nat} {v : Nat} {n p B : Nat} {kd vd : Nat → Int32} {ln : Nat → Nat} {cl : List sp_Cl} (hD : 6 ≤ D) (hs : s < 4) (hR : tc_R mn sc MZ r) (hsc : sc.1 v = some cl) (hw : si_w mn n j b w kd vd ln) (hp : p < n) (hh0 : si_h b B) (hB : B < 2000000000) (k : ∀ r2 : tc_r, tc_R mn sc MZ r2 → Q (some (.int (sp_pace (sp_fact kd vd (b 1) (ln p) p) cl))) (HT (ks K s j b w v) MZ r2)) : px_W G D 0 0 m_Si_paceAt 0 (px_ent 3 [.ref (tc_p s), .int (nI p)]) [] (HT (ks K s j b w v) MZ r) Q := by
  obtain ⟨hn6, h8, hln⟩ := hw
  obtain ⟨hl6, hb4, pm, k0, vn, hwm, hmm, hkd, hvd⟩ := hln p hp
  obtain ⟨hh, hhB, hb1⟩ := hh0 (ln p) hl6
  obtain ⟨hk, hnn6, hv10, -⟩ := hR.2.1 pm k0 (ln p) vn hmm
  have hsc0 : ∀ r, tc_R mn sc MZ r → ∃ fs, (HT (ks K s j b w v) MZ r)[v]? = some (.inr (3, fs)) := fun r h => by
    obtain ⟨fs, e, -⟩ := h.sca (K := ks K s j b w v) hsc
    exact ⟨fs, e⟩
  obtain ⟨fs0, hfs0⟩ := hsc0 r hR
  show px_W _ _ _ _ _ _ [some (.ref (tc_p s)), some (.int (nI p)), none] [] _ _
  refine wp_iload_n d_Si_paceAt_0 rfl rfl ?_
  refine wp_if_lt (t := 12) d_Si_paceAt_1 (by decide) (fun c_1 => absurd c_1 (nI_pos (by omega))) (fun c_1 => ?_)
  refine wp_iload_n d_Si_paceAt_4 rfl rfl ?_
  refine wp_aload_n d_Si_paceAt_5 rfl rfl rfl ?_
  refine gS_8 hs gf_Si_50_1 d_Si_paceAt_6 ?_
  rw [h8]
  refine wp_icmp_lt (t := 14) d_Si_paceAt_9 (by decide) (fun c_9 => ?_) (fun c_9 => absurd ((nI_ltI (by omega) (by omega)).mpr hp) c_9)
  refine wp_aload_n d_Si_paceAt_14 rfl rfl rfl ?_
  refine gS_4 hs gf_Si_27_1 d_Si_paceAt_15 ?_
  refine wp_iload_n d_Si_paceAt_18 rfl rfl ?_
  refine lS_4 hs d_Si_paceAt_19 (vp_in_nI (by omega) (by decide)) ?_
  rw [nI_clamp (by omega), hb4]
  refine wp_istore_n (ls' := [_, _, _]) d_Si_paceAt_20 rfl (by decide) rfl ?_
  refine wp_aload_n d_Si_paceAt_21 rfl rfl rfl ?_
  refine gS_14 hs gf_Si_36_1 d_Si_paceAt_22 ?_
  refine wp_aload_n d_Si_paceAt_25 rfl rfl rfl ?_
  refine gS_0 hs gf_Si_11_1 d_Si_paceAt_26 ?_
  refine wp_iload_n d_Si_paceAt_29 rfl rfl ?_
  refine lS_0 hs d_Si_paceAt_30 (vp_in_nI (by omega) (by decide)) ?_
  rw [nI_clamp (by omega), hwm]
  show px_W _ _ _ _ _ _ _ (.ref pm :: _) _ _
  refine wp_iload_n d_Si_paceAt_31 rfl rfl ?_
  refine wp_aload_n d_Si_paceAt_32 rfl rfl rfl ?_
  refine gS_1 hs gf_Si_17_1 d_Si_paceAt_33 ?_
  refine wp_iload_n d_Si_paceAt_36 rfl rfl ?_
  refine lS_1 hs d_Si_paceAt_37 (vp_in_nI (by omega) (by decide)) ?_
  rw [nI_clamp (by omega), hb1]
  refine wp_callV (r := (R_3, T_3, 10)) (M' := m_Sc_pace) (as := [_, _, _]) (D' := D - 1) (C1 := 0) (C2 := 0) (S1 := 0) (S2 := 0) d_Si_paceAt_38 rfl w_442 w_443 w_444 hfs0 k_Sc_pace (Nat.le_of_ble_eq_true rfl) rfl (Nat.le_of_ble_eq_true rfl) (by omega) rfl rfl ?_
  refine c_pace (by omega) hR hmm hsc (by omega) (by omega) (fun r2 hR2 => ?_)
  refine wp_ireturn d_Si_paceAt_41 rfl rfl ?_
  rw [fc_sp, hkd, hvd, hb1] at k
  exact k r2 hR2
end TCV
