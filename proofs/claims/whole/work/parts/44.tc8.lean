section TCX
variable {G : px_G} {D C S : Nat} {M : px_M} {pc idx : Nat} {ls : px_L} {st : List Value} {K : tc_K} {MZ : px_H} {r : tc_r} {s o : Nat} {j : Nat → Int32} {b : Nat → Nat → Int32} {w : Nat → Option Nat} {v : Nat} {Q : Option Value → px_H → Prop} {mn : tc_mn} {sc : tc_sc}
theorem ks_o {j : Nat → Int32} {b : Nat → Nat → Int32} {w : Nat → Option Nat} {v : Nat} (h : o ≠ s) : (ks K s j b w v).1 o = K.1 o ∧ (ks K s j b w v).2.1 o = K.2.1 o ∧ (ks K s j b w v).2.2.1 o = K.2.2.1 o ∧ (ks K s j b w v).2.2.2.1 o = K.2.2.2.1 o := ⟨if_neg h, if_neg h, if_neg h, if_neg h⟩
theorem to_0 (ho : o < 4) (hso : o ≠ s) : (HT (ks K s j b w v) MZ r)[tc_p o]? = some (.inr (1, SF (tc_p o) (K.1 o) (K.2.2.2.1 o))) := by
  have h := ht_lo (MZ := MZ) (r := r) (hc_s0 (ks K s j b w v) r.1 o ho)
  rw [(ks_o hso).1, (ks_o hso).2.2.2] at h
  exact h
theorem gO_0 (ho : o < 4) (hso : o ≠ s) (gf : px_GR M.1.cls idx 1 0) (d : decode M.2.1 pc = .ok (.getfield idx, 3)) (k : px_W G D C S M (pc + 3) ls (.ref (tc_p o + 1) :: st) (HT (ks K s j b w v) MZ r) Q) : px_W G D C S M pc ls (.ref (tc_p o) :: st) (HT (ks K s j b w v) MZ r) Q := wp_getf d gf (to_0 ho hso) rfl k
theorem gO_1 (ho : o < 4) (hso : o ≠ s) (gf : px_GR M.1.cls idx 1 1) (d : decode M.2.1 pc = .ok (.getfield idx, 3)) (k : px_W G D C S M (pc + 3) ls (.ref (tc_p o + 2) :: st) (HT (ks K s j b w v) MZ r) Q) : px_W G D C S M pc ls (.ref (tc_p o) :: st) (HT (ks K s j b w v) MZ r) Q := wp_getf d gf (to_0 ho hso) rfl k
theorem gO_2 (ho : o < 4) (hso : o ≠ s) (gf : px_GR M.1.cls idx 1 2) (d : decode M.2.1 pc = .ok (.getfield idx, 3)) (k : px_W G D C S M (pc + 3) ls (.ref (tc_p o + 3) :: st) (HT (ks K s j b w v) MZ r) Q) : px_W G D C S M pc ls (.ref (tc_p o) :: st) (HT (ks K s j b w v) MZ r) Q := wp_getf d gf (to_0 ho hso) rfl k
theorem gO_3 (ho : o < 4) (hso : o ≠ s) (gf : px_GR M.1.cls idx 1 3) (d : decode M.2.1 pc = .ok (.getfield idx, 3)) (k : px_W G D C S M (pc + 3) ls (.ref (tc_p o + 4) :: st) (HT (ks K s j b w v) MZ r) Q) : px_W G D C S M pc ls (.ref (tc_p o) :: st) (HT (ks K s j b w v) MZ r) Q := wp_getf d gf (to_0 ho hso) rfl k
theorem gO_4 (ho : o < 4) (hso : o ≠ s) (gf : px_GR M.1.cls idx 1 4) (d : decode M.2.1 pc = .ok (.getfield idx, 3)) (k : px_W G D C S M (pc + 3) ls (.ref (tc_p o + 5) :: st) (HT (ks K s j b w v) MZ r) Q) : px_W G D C S M pc ls (.ref (tc_p o) :: st) (HT (ks K s j b w v) MZ r) Q := wp_getf d gf (to_0 ho hso) rfl k
theorem gO_5 (ho : o < 4) (hso : o ≠ s) (gf : px_GR M.1.cls idx 1 5) (d : decode M.2.1 pc = .ok (.getfield idx, 3)) (k : px_W G D C S M (pc + 3) ls (.ref (tc_p o + 6) :: st) (HT (ks K s j b w v) MZ r) Q) : px_W G D C S M pc ls (.ref (tc_p o) :: st) (HT (ks K s j b w v) MZ r) Q := wp_getf d gf (to_0 ho hso) rfl k
theorem gO_6 (ho : o < 4) (hso : o ≠ s) (gf : px_GR M.1.cls idx 1 6) (d : decode M.2.1 pc = .ok (.getfield idx, 3)) (k : px_W G D C S M (pc + 3) ls (.ref (tc_p o + 7) :: st) (HT (ks K s j b w v) MZ r) Q) : px_W G D C S M pc ls (.ref (tc_p o) :: st) (HT (ks K s j b w v) MZ r) Q := wp_getf d gf (to_0 ho hso) rfl k
theorem gO_7 (ho : o < 4) (hso : o ≠ s) (gf : px_GR M.1.cls idx 1 7) (d : decode M.2.1 pc = .ok (.getfield idx, 3)) (k : px_W G D C S M (pc + 3) ls (.int (K.1 o 7) :: st) (HT (ks K s j b w v) MZ r) Q) : px_W G D C S M pc ls (.ref (tc_p o) :: st) (HT (ks K s j b w v) MZ r) Q := wp_getf d gf (to_0 ho hso) rfl k
theorem gO_8 (ho : o < 4) (hso : o ≠ s) (gf : px_GR M.1.cls idx 1 8) (d : decode M.2.1 pc = .ok (.getfield idx, 3)) (k : px_W G D C S M (pc + 3) ls (.int (K.1 o 8) :: st) (HT (ks K s j b w v) MZ r) Q) : px_W G D C S M pc ls (.ref (tc_p o) :: st) (HT (ks K s j b w v) MZ r) Q := wp_getf d gf (to_0 ho hso) rfl k
theorem gO_9 (ho : o < 4) (hso : o ≠ s) (gf : px_GR M.1.cls idx 1 9) (d : decode M.2.1 pc = .ok (.getfield idx, 3)) (k : px_W G D C S M (pc + 3) ls (.int (K.1 o 9) :: st) (HT (ks K s j b w v) MZ r) Q) : px_W G D C S M pc ls (.ref (tc_p o) :: st) (HT (ks K s j b w v) MZ r) Q := wp_getf d gf (to_0 ho hso) rfl k
theorem gO_10 (ho : o < 4) (hso : o ≠ s) (gf : px_GR M.1.cls idx 1 10) (d : decode M.2.1 pc = .ok (.getfield idx, 3)) (k : px_W G D C S M (pc + 3) ls (.int (K.1 o 10) :: st) (HT (ks K s j b w v) MZ r) Q) : px_W G D C S M pc ls (.ref (tc_p o) :: st) (HT (ks K s j b w v) MZ r) Q := wp_getf d gf (to_0 ho hso) rfl k
theorem gO_11 (ho : o < 4) (hso : o ≠ s) (gf : px_GR M.1.cls idx 1 11) (d : decode M.2.1 pc = .ok (.getfield idx, 3)) (k : px_W G D C S M (pc + 3) ls (.int (K.1 o 11) :: st) (HT (ks K s j b w v) MZ r) Q) : px_W G D C S M pc ls (.ref (tc_p o) :: st) (HT (ks K s j b w v) MZ r) Q := wp_getf d gf (to_0 ho hso) rfl k
theorem gO_12 (ho : o < 4) (hso : o ≠ s) (gf : px_GR M.1.cls idx 1 12) (d : decode M.2.1 pc = .ok (.getfield idx, 3)) (k : px_W G D C S M (pc + 3) ls (.int (K.1 o 12) :: st) (HT (ks K s j b w v) MZ r) Q) : px_W G D C S M pc ls (.ref (tc_p o) :: st) (HT (ks K s j b w v) MZ r) Q := wp_getf d gf (to_0 ho hso) rfl k
theorem gO_13 (ho : o < 4) (hso : o ≠ s) (gf : px_GR M.1.cls idx 1 13) (d : decode M.2.1 pc = .ok (.getfield idx, 3)) (k : px_W G D C S M (pc + 3) ls (.int (K.1 o 13) :: st) (HT (ks K s j b w v) MZ r) Q) : px_W G D C S M pc ls (.ref (tc_p o) :: st) (HT (ks K s j b w v) MZ r) Q := wp_getf d gf (to_0 ho hso) rfl k
theorem gO_14 (ho : o < 4) (hso : o ≠ s) (gf : px_GR M.1.cls idx 1 14) (d : decode M.2.1 pc = .ok (.getfield idx, 3)) (k : px_W G D C S M (pc + 3) ls (.ref (K.2.2.2.1 o) :: st) (HT (ks K s j b w v) MZ r) Q) : px_W G D C S M pc ls (.ref (tc_p o) :: st) (HT (ks K s j b w v) MZ r) Q := wp_getf d gf (to_0 ho hso) rfl k
theorem to_a0 (ho : o < 4) (hso : o ≠ s) : (HT (ks K s j b w v) MZ r)[tc_p o + 1]? = some (rA "TubeChain$Man" 6 (K.2.2.1 o)) := by
  have h := ht_lo (MZ := MZ) (r := r) (hc_a0 (ks K s j b w v) r.1 o ho)
  rw [(ks_o hso).2.2.1] at h
  exact h
theorem to_a1 (ho : o < 4) (hso : o ≠ s) : (HT (ks K s j b w v) MZ r)[tc_p o + 2]? = some (iA 6 (K.2.1 o 1)) := by
  have h := ht_lo (MZ := MZ) (r := r) (hc_a1 (ks K s j b w v) r.1 o ho)
  rw [(ks_o hso).2.1] at h
  exact h
theorem to_a2 (ho : o < 4) (hso : o ≠ s) : (HT (ks K s j b w v) MZ r)[tc_p o + 3]? = some (iA 6 (K.2.1 o 2)) := by
  have h := ht_lo (MZ := MZ) (r := r) (hc_a2 (ks K s j b w v) r.1 o ho)
  rw [(ks_o hso).2.1] at h
  exact h
theorem to_a3 (ho : o < 4) (hso : o ≠ s) : (HT (ks K s j b w v) MZ r)[tc_p o + 4]? = some (iA 24 (K.2.1 o 3)) := by
  have h := ht_lo (MZ := MZ) (r := r) (hc_a3 (ks K s j b w v) r.1 o ho)
  rw [(ks_o hso).2.1] at h
  exact h
theorem to_a4 (ho : o < 4) (hso : o ≠ s) : (HT (ks K s j b w v) MZ r)[tc_p o + 5]? = some (iA 6 (K.2.1 o 4)) := by
  have h := ht_lo (MZ := MZ) (r := r) (hc_a4 (ks K s j b w v) r.1 o ho)
  rw [(ks_o hso).2.1] at h
  exact h
theorem to_a5 (ho : o < 4) (hso : o ≠ s) : (HT (ks K s j b w v) MZ r)[tc_p o + 6]? = some (iA 6 (K.2.1 o 5)) := by
  have h := ht_lo (MZ := MZ) (r := r) (hc_a5 (ks K s j b w v) r.1 o ho)
  rw [(ks_o hso).2.1] at h
  exact h
theorem to_a6 (ho : o < 4) (hso : o ≠ s) : (HT (ks K s j b w v) MZ r)[tc_p o + 7]? = some (iA 8 (K.2.1 o 6)) := by
  have h := ht_lo (MZ := MZ) (r := r) (hc_a6 (ks K s j b w v) r.1 o ho)
  rw [(ks_o hso).2.1] at h
  exact h
theorem sub_man : ∀ k, k < 7 → px_sub (5 + k) "TubeChain$Man" := by
  intro k hk
  match k, hk with
  | 0, _ => exact ⟨_, rfl, Or.inl rfl⟩
  | 1, _ => exact ⟨_, rfl, Or.inr w_1591⟩
  | 2, _ => exact ⟨_, rfl, Or.inr w_1592⟩
  | 3, _ => exact ⟨_, rfl, Or.inr w_1593⟩
  | 4, _ => exact ⟨_, rfl, Or.inr w_1594⟩
  | 5, _ => exact ⟨_, rfl, Or.inr w_1595⟩
  | 6, _ => exact ⟨_, rfl, Or.inr w_1596⟩
theorem cp_in {α : Type} {f g : Nat → α} {n i : Nat} (h : i < n) : va_cpy f g 0 0 n i = f i := by
  unfold va_cpy
  rw [if_pos ⟨Nat.zero_le _, by omega⟩, Nat.sub_zero, Nat.zero_add]
/-- the men of a row are men -/
def mn_ok (mn : tc_mn) (w : Nat → Option Nat) : Prop := ∀ i, i < 6 → ∀ y, w i = some y → y = 6 ∨ ∃ k n v, mn y = some (k, n, v)
theorem mn_ok.at (h : mn_ok mn w) (hR : tc_R mn sc MZ r) {i y : Nat} (hi : i < 6) (hy : w i = some y) : ∃ ci fs, (HT K MZ r)[y]? = some (.inr (ci, fs)) ∧ px_sub ci "TubeChain$Man" := by
  rcases h i hi y hy with rfl | ⟨k, n, v, e⟩
  · exact ⟨5, _, ht_lo rfl, sub_man 0 (by decide)⟩
  · exact ⟨_, _, hR.man e, sub_man k (hR.2.1 y k n v e).1⟩
/-- a chain copied: numbers, rows, men, scaffold -/
def si_cp (j0 j j2 : Nat → Int32) (b0 b b2 : Nat → Nat → Int32) (w0 w2 : Nat → Option Nat) : Prop := (∀ f, 7 ≤ f → f ≤ 11 → j2 f = j0 f) ∧ (∀ f, 12 ≤ f → j2 f = j f) ∧ (∀ i, i < 6 → b2 1 i = b0 1 i ∧ b2 2 i = b0 2 i ∧ b2 4 i = b0 4 i) ∧ (∀ i, i < 24 → b2 3 i = b0 3 i) ∧ b2 5 = b 5 ∧ b2 6 = b 6 ∧ ∀ i, i < 6 → w2 i = w0 i
set_option maxRecDepth 4000 in
theorem c_Si_copyChain  (hD : 1 ≤ D) (hs : s < 4) (ho : o < 4) (hso : o ≠ s) (hR : tc_R mn sc MZ r) (hmn : mn_ok mn (K.2.2.1 o)) (k : ∀ j2 b2 w2, si_cp (K.1 o) j j2 (K.2.1 o) b b2 (K.2.2.1 o) w2 → Q none (HT (ks K s j2 b2 w2 (K.2.2.2.1 o)) MZ r)) : px_W G D 0 0 m_Si_copyChain 0 (px_ent 2 [.ref (tc_p s), .ref (tc_p o)]) [] (HT (ks K s j b w v) MZ r) Q := by
  show px_W _ _ _ _ _ _ [some (.ref (tc_p s)), some (.ref (tc_p o))] [] _ _
  refine wp_aload_n d_Si_copyChain_0 rfl rfl rfl ?_
  refine gO_0 ho hso gf_Si_11_1 d_Si_copyChain_1 ?_
  refine wp_iconst (v := 0) d_Si_copyChain_4 rfl ?_
  refine wp_aload_n d_Si_copyChain_5 rfl rfl rfl ?_
  refine gS_0 hs gf_Si_11_1 d_Si_copyChain_6 ?_
  refine wp_iconst (v := 0) d_Si_copyChain_9 rfl ?_
  refine wp_bipush (v := 6) d_Si_copyChain_10 (by decide) ?_
  refine wp_copyq (t0 := 4) d_Si_copyChain_12 w_400 (to_a0 ho hso) (ts_a0 hs) (by decide) (by decide) (by decide) (by decide) (by decide) (fun _ => rfl) (fun i hi y hy => hmn.at hR hi (by rw [← hy]; exact congrArg _ (Nat.zero_add i).symm)) (by omega) (Nat.le_of_ble_eq_true rfl) (ts_sa0 hs) ?_
  refine wp_aload_n d_Si_copyChain_15 rfl rfl rfl ?_
  refine gO_1 ho hso gf_Si_17_1 d_Si_copyChain_16 ?_
  refine wp_iconst (v := 0) d_Si_copyChain_19 rfl ?_
  refine wp_aload_n d_Si_copyChain_20 rfl rfl rfl ?_
  refine gS_1 hs gf_Si_17_1 d_Si_copyChain_21 ?_
  refine wp_iconst (v := 0) d_Si_copyChain_24 rfl ?_
  refine wp_bipush (v := 6) d_Si_copyChain_25 (by decide) ?_
  refine wp_copyi d_Si_copyChain_27 w_400 (to_a1 ho hso) (ts_a1 hs) (by decide) (by decide) (by decide) (by decide) (by decide) (by omega) (Nat.le_of_ble_eq_true rfl) (ts_sa1 hs) ?_
  refine wp_aload_n d_Si_copyChain_30 rfl rfl rfl ?_
  refine gO_2 ho hso gf_Si_21_1 d_Si_copyChain_31 ?_
  refine wp_iconst (v := 0) d_Si_copyChain_34 rfl ?_
  refine wp_aload_n d_Si_copyChain_35 rfl rfl rfl ?_
  refine gS_2 hs gf_Si_21_1 d_Si_copyChain_36 ?_
  refine wp_iconst (v := 0) d_Si_copyChain_39 rfl ?_
  refine wp_bipush (v := 6) d_Si_copyChain_40 (by decide) ?_
  refine wp_copyi d_Si_copyChain_42 w_400 (to_a2 ho hso) (ts_a2 hs) (by decide) (by decide) (by decide) (by decide) (by decide) (by omega) (Nat.le_of_ble_eq_true rfl) (ts_sa2 hs) ?_
  refine wp_aload_n d_Si_copyChain_45 rfl rfl rfl ?_
  refine gO_3 ho hso gf_Si_24_1 d_Si_copyChain_46 ?_
  refine wp_iconst (v := 0) d_Si_copyChain_49 rfl ?_
  refine wp_aload_n d_Si_copyChain_50 rfl rfl rfl ?_
  refine gS_3 hs gf_Si_24_1 d_Si_copyChain_51 ?_
  refine wp_iconst (v := 0) d_Si_copyChain_54 rfl ?_
  refine wp_bipush (v := 24) d_Si_copyChain_55 (by decide) ?_
  refine wp_copyi d_Si_copyChain_57 w_400 (to_a3 ho hso) (ts_a3 hs) (by decide) (by decide) (by decide) (by decide) (by decide) (by omega) (Nat.le_of_ble_eq_true rfl) (ts_sa3 hs) ?_
  refine wp_aload_n d_Si_copyChain_60 rfl rfl rfl ?_
  refine gO_4 ho hso gf_Si_27_1 d_Si_copyChain_61 ?_
  refine wp_iconst (v := 0) d_Si_copyChain_64 rfl ?_
  refine wp_aload_n d_Si_copyChain_65 rfl rfl rfl ?_
  refine gS_4 hs gf_Si_27_1 d_Si_copyChain_66 ?_
  refine wp_iconst (v := 0) d_Si_copyChain_69 rfl ?_
  refine wp_bipush (v := 6) d_Si_copyChain_70 (by decide) ?_
  refine wp_copyi d_Si_copyChain_72 w_400 (to_a4 ho hso) (ts_a4 hs) (by decide) (by decide) (by decide) (by decide) (by decide) (by omega) (Nat.le_of_ble_eq_true rfl) (ts_sa4 hs) ?_
  refine wp_aload_n d_Si_copyChain_75 rfl rfl rfl ?_
  refine wp_aload_n d_Si_copyChain_76 rfl rfl rfl ?_
  refine gO_7 ho hso gf_Si_46_1 d_Si_copyChain_77 ?_
  refine pS_7 hs pgf_Si_46_1 d_Si_copyChain_80 ?_
  refine wp_aload_n d_Si_copyChain_83 rfl rfl rfl ?_
  refine wp_aload_n d_Si_copyChain_84 rfl rfl rfl ?_
  refine gO_8 ho hso gf_Si_50_1 d_Si_copyChain_85 ?_
  refine pS_8 hs pgf_Si_50_1 d_Si_copyChain_88 ?_
  refine wp_aload_n d_Si_copyChain_91 rfl rfl rfl ?_
  refine wp_aload_n d_Si_copyChain_92 rfl rfl rfl ?_
  refine gO_9 ho hso gf_Si_53_1 d_Si_copyChain_93 ?_
  refine pS_9 hs pgf_Si_53_1 d_Si_copyChain_96 ?_
  refine wp_aload_n d_Si_copyChain_99 rfl rfl rfl ?_
  refine wp_aload_n d_Si_copyChain_100 rfl rfl rfl ?_
  refine gO_10 ho hso gf_Si_56_1 d_Si_copyChain_101 ?_
  refine pS_10 hs pgf_Si_56_1 d_Si_copyChain_104 ?_
  refine wp_aload_n d_Si_copyChain_107 rfl rfl rfl ?_
  refine wp_aload_n d_Si_copyChain_108 rfl rfl rfl ?_
  refine gO_11 ho hso gf_Si_59_1 d_Si_copyChain_109 ?_
  refine pS_11 hs pgf_Si_59_1 d_Si_copyChain_112 ?_
  refine wp_aload_n d_Si_copyChain_115 rfl rfl rfl ?_
  refine wp_aload_n d_Si_copyChain_116 rfl rfl rfl ?_
  refine gO_14 ho hso gf_Si_36_1 d_Si_copyChain_117 ?_
  refine pS_14 hs pgf_Si_36_1 d_Si_copyChain_120 ?_
  refine wp_return d_Si_copyChain_123 rfl ?_
  refine k _ _ _ ⟨fun f h1 h2 => ?_, fun f h1 => ?_, fun i hi => ⟨cp_in (n := 6) hi, cp_in (n := 6) hi, cp_in (n := 6) hi⟩, fun i hi => cp_in (n := 24) hi, rfl, rfl, fun i hi => cp_in (n := 6) hi⟩
  · match f, h1, h2 with
    | 7, _, _ => rfl
    | 8, _, _ => rfl
    | 9, _, _ => rfl
    | 10, _, _ => rfl
    | 11, _, _ => rfl
  · show (if f = 11 then _ else if f = 10 then _ else if f = 9 then _ else if f = 8 then _ else if f = 7 then _ else j f) = j f
    rw [if_neg (by omega), if_neg (by omega), if_neg (by omega), if_neg (by omega), if_neg (by omega)]
def si_cn (j0 j j2 : Nat → Int32) (b0 b b2 : Nat → Nat → Int32) : Prop := (∀ f, f < 12 → j2 f = j f) ∧ j2 12 = j0 12 ∧ j2 13 = j0 13 ∧ (∀ i, i < 5 → b2 i = b i) ∧ (∀ i, i < 6 → b2 5 i = b0 5 i) ∧ ∀ i, i < 8 → b2 6 i = b0 6 i
set_option maxRecDepth 4000 in
theorem c_Si_copyNotes  (hD : 1 ≤ D) (hs : s < 4) (ho : o < 4) (hso : o ≠ s) (k : ∀ j2 b2, si_cn (K.1 o) j j2 (K.2.1 o) b b2 → Q none (HT (ks K s j2 b2 w v) MZ r)) : px_W G D 0 0 m_Si_copyNotes 0 (px_ent 2 [.ref (tc_p s), .ref (tc_p o)]) [] (HT (ks K s j b w v) MZ r) Q := by
  show px_W _ _ _ _ _ _ [some (.ref (tc_p s)), some (.ref (tc_p o))] [] _ _
  refine wp_aload_n d_Si_copyNotes_0 rfl rfl rfl ?_
  refine gO_5 ho hso gf_Si_30_1 d_Si_copyNotes_1 ?_
  refine wp_iconst (v := 0) d_Si_copyNotes_4 rfl ?_
  refine wp_aload_n d_Si_copyNotes_5 rfl rfl rfl ?_
  refine gS_5 hs gf_Si_30_1 d_Si_copyNotes_6 ?_
  refine wp_iconst (v := 0) d_Si_copyNotes_9 rfl ?_
  refine wp_bipush (v := 6) d_Si_copyNotes_10 (by decide) ?_
  refine wp_copyi d_Si_copyNotes_12 w_400 (to_a5 ho hso) (ts_a5 hs) (by decide) (by decide) (by decide) (by decide) (by decide) (by omega) (Nat.le_of_ble_eq_true rfl) (ts_sa5 hs) ?_
  refine wp_aload_n d_Si_copyNotes_15 rfl rfl rfl ?_
  refine gO_6 ho hso gf_Si_33_1 d_Si_copyNotes_16 ?_
  refine wp_iconst (v := 0) d_Si_copyNotes_19 rfl ?_
  refine wp_aload_n d_Si_copyNotes_20 rfl rfl rfl ?_
  refine gS_6 hs gf_Si_33_1 d_Si_copyNotes_21 ?_
  refine wp_iconst (v := 0) d_Si_copyNotes_24 rfl ?_
  refine wp_bipush (v := 8) d_Si_copyNotes_25 (by decide) ?_
  refine wp_copyi d_Si_copyNotes_27 w_400 (to_a6 ho hso) (ts_a6 hs) (by decide) (by decide) (by decide) (by decide) (by decide) (by omega) (Nat.le_of_ble_eq_true rfl) (ts_sa6 hs) ?_
  refine wp_aload_n d_Si_copyNotes_30 rfl rfl rfl ?_
  refine wp_aload_n d_Si_copyNotes_31 rfl rfl rfl ?_
  refine gO_12 ho hso gf_Si_62_1 d_Si_copyNotes_32 ?_
  refine pS_12 hs pgf_Si_62_1 d_Si_copyNotes_35 ?_
  refine wp_aload_n d_Si_copyNotes_38 rfl rfl rfl ?_
  refine wp_aload_n d_Si_copyNotes_39 rfl rfl rfl ?_
  refine gO_13 ho hso gf_Si_65_1 d_Si_copyNotes_40 ?_
  refine pS_13 hs pgf_Si_65_1 d_Si_copyNotes_43 ?_
  refine wp_return d_Si_copyNotes_46 rfl ?_
  refine k _ _ ⟨fun f h1 => ?_, rfl, rfl, fun i hi => ?_, fun i hi => cp_in (n := 6) hi, fun i hi => cp_in (n := 8) hi⟩
  · show (if f = 13 then _ else if f = 12 then _ else j f) = j f
    rw [if_neg (by omega), if_neg (by omega)]
  · show (if i = 6 then _ else if i = 5 then _ else b i) = b i
    rw [if_neg (by omega), if_neg (by omega)]
end TCX
