/-! WHAT HOLDS AS THE LAW BEGINS -/
theorem ls_tb {w : Cond} (h : w ∈ px_tb) : w ∈ lw_tbl := (List.mem_filter.mp h).1
theorem ls_inst : ∀ (k : Nat) (r : vw_C), px_cls[k]? = some r → Cond.instantiable r.1 r.2.2 ∈ px_tb := by
  intro k r h
  match k, h with
  | 0, h => cases h; exact w_95
  | 1, h => cases h; exact w_175
  | 2, h => cases h; exact w_245
  | 3, h => cases h; exact w_103
  | 4, h => cases h; exact w_277
  | 5, h => cases h; exact w_151
  | 6, h => cases h; exact w_339
  | 7, h => cases h; exact w_348
  | 8, h => cases h; exact w_357
  | 9, h => cases h; exact w_366
  | 10, h => cases h; exact w_375
  | 11, h => cases h; exact w_384
  | 12, h => cases h; exact w_988
  | k + 13, h => simp [px_cls] at h
theorem ls_arr {args : Array Value} {s : State} {ty : FieldType} (h : (Cond.arrayClass ty).before args s = true) (hn : ∀ C, ty ≠ .object C := by intro C h; cases h) : ∃ cA : ClassId, ArrOfT s cA ty ∧ va_RA s cA ty := by
  obtain ⟨c, k, comp, h1, h2, h3⟩ := Cond.arrayClass_spec h
  refine ⟨c, fun n z => ⟨fun k h => (by cases h), k, h2, comp, h3⟩, ?_⟩
  cases ty with
  | object C => exact absurd rfl (hn C)
  | _ => exact h1
theorem ls_aro {args : Array Value} {s : State} {C : String} (h : (Cond.arrayOver (.object C)).before args s = true) : ∃ cA : ClassId, ArrOfT s cA (.object C) ∧ va_RA s cA (.object C) := by
  obtain ⟨comp, c, k, h1, h2, h3, h4, h5⟩ := Cond.arrayOver_spec h
  exact ⟨c, fun n z => ⟨fun k h => (by cases h), k, h3, comp, h4⟩, k, comp, h3, h4, h1, h5⟩
def ls_ty (ty : FieldType) : Prop := ty = .int ∨ ty = .long ∨ ty = .char ∨ ty = .boolean ∨ ty = .object "TubeChain$Man" ∨ ty = .object "TubeChain$Scaffold" ∨ ty = .object "TubeChain$Tape"
section LSS
variable {s : State} {b : Nat}
theorem ls_tys (hts : ∀ w ∈ lw_tbl, w.before #[Value.ref b] s = true) {ty : FieldType} (h : ls_ty ty) : ∃ cA : ClassId, ArrOfT s cA ty ∧ va_RA s cA ty := by
  rcases h with e | e | e | e | e | e | e
  · subst e; exact ls_arr (hts _ (px_t1 (List.mem_of_getElem? (i := 75) rfl)))
  · subst e; exact ls_arr (hts _ (px_t1 (List.mem_of_getElem? (i := 76) rfl)))
  · subst e; exact ls_arr (hts _ (px_t1 (List.mem_of_getElem? (i := 77) rfl)))
  · subst e; exact ls_arr (hts _ (px_t5 (List.mem_of_getElem? (i := 172) rfl)))
  · subst e; exact ls_aro (hts _ (px_t1 (List.mem_of_getElem? (i := 109) rfl)))
  · subst e; exact ls_aro (hts _ (px_t1 (List.mem_of_getElem? (i := 202) rfl)))
  · subst e; exact ls_aro (hts _ (px_t1 (List.mem_of_getElem? (i := 204) rfl)))
theorem ls_K (hts : ∀ w ∈ lw_tbl, w.before #[Value.ref b] s = true) : ∃ (dC : Nat → ClassId) (dI : Nat → Nat → Nat) (dA : FieldType → ClassId), ∀ (n : Nat) (cl : Nat → Option Nat) (sc : Nat × (Nat → Int32)), va_K (dC, dI) px_cls (px_tys (n, (dC, dI), dA, cl, sc)) s := by
  have h0 : ∀ k : Nat, ∃ q : ClassId × (Nat → Nat), ∀ r, px_cls[k]? = some r → u_Kn s r.1 r.2.1 r.2.2 q.1 q.2 := by
    intro k
    cases e : px_cls[k]? with
    | none => exact ⟨(0, fun _ => 0), fun r h => (by cases h)⟩
    | some r =>
      obtain ⟨cC, iS, hK⟩ := u_known (C := r.1) (T := r.2.1) (N := r.2.2) (n := r.2.2) hts (px_cls_in k r e).1 (hts _ (ls_tb (ls_inst k r e)))
      exact ⟨(cC, iS), fun r' h => (by cases h; exact hK)⟩
  have h1 : ∀ ty : FieldType, ∃ cA : ClassId, ls_ty ty → ArrOfT s cA ty ∧ va_RA s cA ty := by
    intro ty
    by_cases h : ls_ty ty
    · obtain ⟨cA, hA⟩ := ls_tys hts h
      exact ⟨cA, fun _ => hA⟩
    · exact ⟨0, fun z => absurd z h⟩
  obtain ⟨q, hq⟩ := Classical.axiomOfChoice h0
  obtain ⟨dA, hdA⟩ := Classical.axiomOfChoice h1
  refine ⟨fun k => (q k).1, fun k => (q k).2, dA, fun n cl sc => ⟨fun k r h => hq k r h, fun k x h => ?_⟩⟩
  match k, h with
  | 0, h => cases h; exact hdA _ (Or.inl rfl)
  | 1, h => cases h; exact hdA _ (Or.inr (Or.inl rfl))
  | 2, h => cases h; exact hdA _ (Or.inr (Or.inr (Or.inl rfl)))
  | 3, h => cases h; exact hdA _ (Or.inr (Or.inr (Or.inr (Or.inl rfl))))
  | 4, h => cases h; exact hdA _ (Or.inr (Or.inr (Or.inr (Or.inr (Or.inl rfl)))))
  | 5, h => cases h; exact hdA _ (Or.inr (Or.inr (Or.inr (Or.inr (Or.inr (Or.inl rfl))))))
  | 6, h => cases h; exact hdA _ (Or.inr (Or.inr (Or.inr (Or.inr (Or.inr (Or.inr rfl))))))
  | k + 7, h => simp [px_tys] at h
abbrev ls_fl : List Cond := flatC (Jvm.Cond.and given_1 narrow_1)
theorem ls_ab : Cond.arrayOf (.static "TubeChain" "ABOVE" "[I") .int ∈ ls_fl ∧ Cond.eq (.length (.static "TubeChain" "ABOVE" "[I")) (.int (Int32.ofNat 7)) ∈ ls_fl ∧ ∀ j, j < 7 → Cond.eq (.elem (.static "TubeChain" "ABOVE" "[I") (.int (Int32.ofNat j))) (.int (px_above j)) ∈ ls_fl := by decide +kernel
theorem ls_st : Cond.isRef (.static "jdk/internal/util/Preconditions" "SIOOBE_FORMATTER" "Ljava/util/function/BiFunction;") ∈ ls_fl ∧ Cond.eq (.static "java/lang/String" "COMPACT_STRINGS" "Z") (.int 1) ∈ ls_fl ∧ ∀ n ∈ px_nt, Cond.not (.castable n "TubeChain$Told") ∈ ls_fl := by decide +kernel
abbrev ls_tm (i : Nat) : Term := .string "TubeChain$Scaffold" (px_txi i)
theorem ls_s1 : ∀ i, i < 3 → Cond.exactly (ls_tm i) "java/lang/String" ∈ ls_fl ∧ Cond.eq (.field (ls_tm i) "java/lang/String" "coder" "B") (.int 0) ∈ ls_fl ∧ Cond.arrayOf (.field (ls_tm i) "java/lang/String" "value" "[B") .byte ∈ ls_fl ∧ Cond.eq (.length (.field (ls_tm i) "java/lang/String" "value" "[B")) (.int (Int32.ofNat (px_len.getD i 0))) ∈ ls_fl := by decide +kernel
theorem ls_s2 : ∀ i, i < 3 → ∀ j, j < px_len.getD i 0 → Cond.eq (.elem (.field (ls_tm i) "java/lang/String" "value" "[B") (.int (Int32.ofNat j))) (.int ((px_byt.getD i []).getD j 0)) ∈ ls_fl := by decide +kernel
theorem ls_s3 : ∀ i, i < 3 → ∀ j, j < 3 → i ≠ j → (Cond.not (Cond.eq (ls_tm i) (ls_tm j)) ∈ ls_fl ∨ Cond.not (Cond.eq (ls_tm j) (ls_tm i)) ∈ ls_fl) := by decide +kernel
def ls_cl (b a : Nat) (f : Option Nat) (adK adV : Nat → Nat) : Nat → Option Nat := fun j => if j = 0 then some b else if j = 1 then some a else if j = 2 then f else if j < 6 then some (adK (j - 3)) else some (adV (j - 6))
theorem ls_RO {L : Nat} {xs : Nat → Int32} (hts : ∀ w ∈ lw_tbl, w.before #[Value.ref b] s = true) (hX : va_X b L xs s s.heap) (hbl : b < s.heap.size) (hgv : (Jvm.Cond.and given_1 narrow_1).before #[Value.ref b] s = true) : ∃ cl : Nat → Option Nat, cl 0 = some b ∧ ∀ (dC : Nat → ClassId) (dI : Nat → Nat → Nat) (dA : FieldType → ClassId), px_RO (s.heap.size, (dC, dI), dA, cl, (L, xs)) s s.heap := by
  have hf := flat_of_before _ hgv
  have hA : ∀ a : Nat, a < s.heap.size → ¬ (fun q : Nat => s.heap.size ≤ q) a := fun a h1 (h2 : s.heap.size ≤ a) => by omega
  obtain ⟨a, ha, hT⟩ := va_Tof (ty := .int) (N := 7) (f := fun j => .int (px_above j)) (A := fun q : Nat => s.heap.size ≤ q) (by decide) (hf _ ls_ab.1) (va_eqt (hf _ ls_ab.2.1)) (fun j hj => va_eqt (hf _ (ls_ab.2.2 j hj))) hA
  have hZ1 := va_Zof (hts _ (px_t2 (List.mem_of_getElem? (i := 22) rfl))) (hts _ (px_t1 (List.mem_of_getElem? (i := 1) rfl))) ha hA
  have hZ2 := va_Zqof (hts _ (px_t3 (List.mem_of_getElem? (i := 0) rfl))) (hts _ (px_t1 (List.mem_of_getElem? (i := 18) rfl))) (hf _ ls_st.1) hA
  have hZ3 := va_Zof (hts _ (px_t2 (List.mem_of_getElem? (i := 224) rfl))) (hts _ (px_t1 (List.mem_of_getElem? (i := 16) rfl))) (va_eqt (hf _ ls_st.2.1)) hA
  obtain ⟨adK, adV, hV, hev⟩ := vk_Sof (N := 3) (tm := ls_tm) (len := px_len) (byt := px_byt) (A := fun q : Nat => s.heap.size ≤ q) (by decide) (fun i hi => hf _ (ls_s1 i hi).1) (fun i hi => hf _ (ls_s1 i hi).2.1) (fun i hi => hf _ (ls_s1 i hi).2.2.1) (fun i hi => hf _ (ls_s1 i hi).2.2.2) (fun i hi j hj => hf _ (ls_s2 i hi j hj)) (fun i j hi hj hn => (ls_s3 i hi j hj hn).imp (hf _) (hf _)) hA
  have hf2 : ∃ f : Option Nat, va_Z "jdk/internal/util/Preconditions" "SIOOBE_FORMATTER" "Ljava/util/function/BiFunction;" (va_rf f) (fun q : Nat => s.heap.size ≤ q) s s.heap := by
    rcases hZ2 with h | ⟨t, h⟩
    · exact ⟨none, h⟩
    · exact ⟨some t, h⟩
  obtain ⟨f, hf2⟩ := hf2
  have hR : ∀ i, i < 3 → vk_R "TubeChain$Scaffold" (px_txi i) (px_txt i) (adK i) s := by
    intro i hi
    match i, hi with
    | 0, hi => exact vk_R.of (hts _ (px_t2 (List.mem_of_getElem? (i := 214) rfl))) (hev 0 hi)
    | 1, hi => exact vk_R.of (hts _ (px_t3 (List.mem_of_getElem? (i := 47) rfl))) (hev 1 hi)
    | 2, hi => exact vk_R.of (hts _ (px_t3 (List.mem_of_getElem? (i := 103) rfl))) (hev 2 hi)
  refine ⟨ls_cl b a f adK adV, rfl, fun dC dI dA => ⟨⟨b, rfl, hX, hbl, hA b hbl⟩, ⟨a, rfl, hZ1, hT⟩, hf2, hZ3, fun n hn => va_Nc.of (hf _ (ls_st.2.2 n hn)), adK, adV, fun i hi => ?_, hV, hR⟩⟩
  match i, hi with
  | 0, _ => exact ⟨rfl, rfl⟩
  | 1, _ => exact ⟨rfl, rfl⟩
  | 2, _ => exact ⟨rfl, rfl⟩
end LSS
