/-! calls -/
/-- the stack behind a call -/
def px_ret (rv : Option Value) (st : List Value) : List Value := match rv with
  | some v => v :: st
  | none => st
def px_sl (as : List Value) : px_L := as.flatMap fun v => if v.category = 2 then [some v, none] else [some v]
/-- the locals at a method's entry -/
def px_ent (n : Nat) (as : List Value) : px_L := px_sl as ++ List.replicate (n - (px_sl as).length) none
theorem px_sl_len (G : px_G) (as : List Value) : (lg_sl (as.map (px_v G))).length = (px_sl as).length := by
  induction as with
  | nil => rfl
  | cons v as ih =>
    simp only [lg_sl, px_sl, List.map_cons, List.flatMap_cons, List.length_append, px_cat] at ih ⊢
    rw [ih]
    congr 1
    split <;> rfl
theorem px_sl_in (G : px_G) : ∀ (as : List Value) (j i : Nat) (v : Value), (px_sl as)[i]? = some (some v) → (j + i, px_v G v) ∈ lv_args j (as.map (px_v G))
  | [], _, _, _, h => by simp [px_sl] at h
  | w :: as, j, i, v, h => by
    rw [List.map_cons]
    simp only [lv_args, px_cat]
    simp only [px_sl, List.flatMap_cons] at h
    by_cases hc : w.category = 2
    · rw [if_pos hc] at h ⊢
      match i, h with
      | 0, h =>
        simp at h
        subst h
        exact List.mem_cons_self
      | 1, h => simp at h
      | i + 2, h =>
        have h' : (px_sl as)[i]? = some (some v) := by simpa [px_sl] using h
        have := px_sl_in G as (j + 2) i v h'
        rw [show j + 2 + i = j + (i + 2) by omega] at this
        exact List.mem_cons_of_mem _ this
    · rw [if_neg hc] at h ⊢
      match i, h with
      | 0, h =>
        simp at h
        subst h
        exact List.mem_cons_self
      | i + 1, h =>
        have h' : (px_sl as)[i]? = some (some v) := by simpa [px_sl] using h
        have := px_sl_in G as (j + 1) i v h'
        rw [show j + 1 + i = j + (i + 1) by omega] at this
        exact List.mem_cons_of_mem _ this
theorem px_ent_lr {G : px_G} {n : Nat} {as : List Value} (hn : (px_sl as).length ≤ n) : px_lr G n (px_ent n as) ((lg_sl (as.map (px_v G)) ++ List.replicate (n - (lg_sl (as.map (px_v G))).length) Slot.unset).toArray) := by
  refine px_lr.of (lv_entry (as.map (px_v G)) (n := n) (by rw [px_sl_len]; exact hn)) fun i v hv => ?_
  have hv2 : (px_sl as)[i]? = some (some v) := by
    unfold px_ent at hv
    by_cases hi : i < (px_sl as).length
    · rwa [List.getElem?_append_left hi] at hv
    · rw [List.getElem?_append_right (by omega), List.getElem?_replicate] at hv
      split at hv <;> cases hv
  simpa using px_sl_in G as 0 i v hv2
def px_gd : List Cond := px_tb.filter goodWord
def px_Pc (G : px_G) (h : px_H) (as : List Value) : Array Value → State → Prop := va_Pc (as.map (px_v G)) (fun U => G.1 ≤ U.heap.size ∧ px_R G h U.heap ∧ va_K G.2.1 px_cls (px_tys G) U ∧ px_RO G U U.heap ∧ ∀ w ∈ px_tb, goodWord w = false → w.before #[] U = true)
def px_Qc (G : px_G) (Q : Option Value → px_H → Prop) : Array Value → State → Outcome → State → Prop := fun _ st o t => (∃ (rv : Option Value) (h' : px_H), o = .returned (rv.map (px_v G)) ∧ Q rv h' ∧ px_R G h' t.heap) ∧ va_F (px_A G) st t
theorem px_bad {P : Cond → Prop} (h1 : ∀ C, P (.arrayOver (.object C))) (h2 : ∀ a b, P (.castable a b)) (h3 : ∀ a b c d, P (.methodLinkNest a b c d)) (w : Cond) (hw : px_wd w = true) (hg : goodWord w = false) : P w := by
  unfold px_wd at hw
  rw [hg, Bool.false_or] at hw
  split at hw
  · exact h1 _
  · exact h2 _ _
  · exact h3 _ _ _ _
  · cases hw
theorem px_bad_args {s : State} {args : Array Value} (w : Cond) (hw : px_wd w = true) (hg : goodWord w = false) : w.before #[] s = true → w.before args s = true :=
  px_bad (P := fun w => w.before #[] s = true → w.before args s = true) (fun C h => va_AO.use h) (fun a b h => va_Nw.use rfl h) (fun a b c d h => va_Nw.use rfl h) w hw hg
theorem px_bad_warm {s U : State} {args : Array Value} (hW : s.WarmedH U.vm) (w : Cond) (hw : px_wd w = true) (hg : goodWord w = false) : w.before args s = true → w.before #[] U = true :=
  px_bad (P := fun w => w.before args s = true → w.before #[] U = true) (fun C h => (va_AO.of h).moved hW.alike) (fun a b h => (va_Nw.of rfl h).warmC hW) (fun a b c d h => (va_Nw.of rfl h).warmM hW) w hw hg
theorem px_bad_calling {U : State} {f : JFrame} {mk : MethodId} {a : Array Value} (w : Cond) (hw : px_wd w = true) (hg : goodWord w = false) : w.before #[] U = true → w.before #[] (U.calling f mk a) = true :=
  px_bad (P := fun w => w.before #[] U = true → w.before #[] (U.calling f mk a) = true) (fun C h => (va_AO.of h).moved (Vm.Alike.refl U.vm)) (fun a b h => va_Nw.same rfl rfl h) (fun a b c d h => va_Nw.same rfl rfl h) w hw hg
theorem px_blind {G : px_G} {h : px_H} {as : List Value} : FrameBlind (px_Pc G h as) := fun a U f mk q => by
  obtain ⟨q1, q2, q3, q4, q5, q6⟩ := q
  exact ⟨q1, q2, q3, va_K.moved (u := U) (U := U.calling f mk a) (Vm.Alike.refl U.vm) q4, q5.calling, fun w hw hg => px_bad_calling w (List.mem_filter.mp hw).2 hg (q6 w hw hg)⟩
theorem px_met {G : px_G} {D C S : Nat} {M : px_M} {as : List Value} {h : px_H} {Q : Option Value → px_H → Prop} (l : Launch) (hpn : plainName M.1.cls = true) (hn : (px_sl as).length ≤ M.2.2.1) (hw : px_W G D C S M 0 (px_ent M.2.2.1 as) [] h Q) :
    Met l M.1 (.code M.1 M.2.1 M.2.2.1 M.2.2.2 :: px_gd) ({ frames := D, cells := C, slots := S, locals := 80 * D }) (px_Pc G h as) (px_Qc G Q) C S (px_A G) := by
  refine Met.ofW (cc := M.2.1) (maxL := M.2.2.1) (ret := M.2.2.2) hpn rfl ?_
  intro p e s m args below meth c s₁ B hml hv
  obtain ⟨rfl, hb, hR, hK, hRO, hbad⟩ := hv
  have hts0 := atoms_spec (ws := .code M.1 M.2.1 M.2.2.1 M.2.2.2 :: px_gd) B.pre
  have hts : ∀ w ∈ px_tb, w.before (as.map (px_v G)).toArray s = true := fun w hw => by
    cases hg : goodWord w with
    | true => exact hts0 w (List.mem_cons_of_mem _ (List.mem_filter.mpr ⟨hw, hg⟩))
    | false => exact px_bad_args w (List.mem_filter.mp hw).2 hg (hbad w hw hg)
  rw [lg_entry_eq]
  refine hw p l e _ s m _ below meth c s.heap [] 0 0 _ _ ⟨B.exec, B.bytes, hml, B.returns, B.notSynchronized, findClass_of_methodNamed B.named, hts, (name_of_methodNamed B.named B.method).1, hK, hRO, hb⟩ va_S.rf hR (px_ent_lr hn) ⟨Nat.le_refl _, Nat.le_refl _⟩ (by show 0 + C ≤ C; omega) (by show 0 + S ≤ S; omega) (fun pc' lsr' H' locs' rv h' a1 a2 a3 a4 => ?_)
  rw [Nat.zero_add, Nat.zero_add]
  rcases a2 with ⟨rfl, r, d⟩ | ⟨x, ty, rfl, r, hn, d⟩ | ⟨x, rfl, r, d⟩ | ⟨x, ty, rfl, r, ht, d⟩
  · exact W.vret B.exec B.bytes (B.returns.trans r) (fun t ht hW => ⟨⟨none, h', rfl, a1, by rw [ht]; exact a3⟩, a4.F ht⟩) a4.2.2 d (hlocks := B.notSynchronized)
  · exact W.zret B.exec B.bytes (B.returns.trans r) hn (fun t ht hW => ⟨⟨some (.int x), h', rfl, a1, by rw [ht]; exact a3⟩, a4.F ht⟩) a4.2.2 d (hlocks := B.notSynchronized)
  · exact W.lret B.exec B.bytes (B.returns.trans r) (fun t ht hW => ⟨⟨some (.long x), h', rfl, a1, by rw [ht]; exact a3⟩, a4.F ht⟩) a4.2.2 d (hlocks := B.notSynchronized)
  · exact W.aret B.exec B.bytes (B.returns.trans r) ht (Or.inr ⟨_, rfl⟩) (fun t ht hW => ⟨⟨some (.ref x), h', rfl, a1, by rw [ht]; exact a3⟩, a4.F ht⟩) a4.2.2 d (hlocks := B.notSynchronized)
/-- what a method asks of the tables, whoever calls it -/
def px_ok (M : px_M) (n : Nat) : Prop := plainName M.1.cls = true ∧ Cond.code M.1 M.2.1 M.2.2.1 M.2.2.2 ∈ px_tb ∧ Cond.initialized M.1.cls ∈ px_tb ∧ (M.1.cls ≠ "java/lang/invoke/MethodHandle" ∧ M.1.cls ≠ "java/lang/invoke/VarHandle") ∧ (parseMethodDescriptor M.1.desc).map (fun d => d.parameters.length) = some n ∧ M.2.2.1 ≤ 61
theorem px_pay {M : px_M} {n : Nat} {s : State} {args : Array Value} (hok : px_ok M n) (hts : ∀ w ∈ px_tb, w.before args s = true) : ∀ w ∈ (Cond.code M.1 M.2.1 M.2.2.1 M.2.2.2 :: px_gd), ∀ (a' : Array Value) (U : State), s.WarmedH U.vm → w.before a' U = true := by
  intro w hw a' U hW
  rcases List.mem_cons.mp hw with rfl | hw
  · exact word_at hW (Or.inl rfl) (hts _ hok.2.1)
  · exact word_at hW (good_of_word (List.mem_filter.mp hw).2) (hts _ (List.mem_filter.mp hw).1)
theorem px_num {M : px_M} {n : Nat} (hok : px_ok M n) : ∀ sig, parseMethodDescriptor M.1.desc = some sig → n = sig.parameters.length := fun sig h => by
  have h2 := hok.2.2.2.2.1
  rw [h] at h2
  exact (Option.some.inj h2).symm
section PXR
variable {p : Program} {l : Launch} {e : Env} {R : Room} {s : State} {m : MethodId} {args : Array Value} {below : List Frame} {meth : Method} {c : Code} {H : Heap} {locs : List Loc} {cells slots mc ms : Nat} {Qm : State → Prop}
theorem px_call {G : px_G} {Q : Option Value → px_H → Prop} {pc : Nat} {lsr : Array Slot} {st0 rest : List Value} {av : Array Value} (hr : va_Run p l e R s m args below meth c H locs cells slots mc ms (F0 m pc lsr st0) rest (px_Qc G Q av) (px_A G)) (hS : va_S (px_A G) s.heap H locs)
    (kk : ∀ (rv : Option Value) (h' : px_H) (H1 : Heap) (locs1 : List Loc), Q rv h' → px_R G h' H1 → va_S (px_A G) s.heap H1 locs1 → W p l e R s m args below meth c H1 locs1 (cells + mc) (slots + ms) Qm (F0 m (pc + 3) lsr ((rv.map (px_v G)).toList ++ rest))) : W p l e R s m args below meth c H locs cells slots Qm (F0 m pc lsr st0) := by
  intro T hT X
  obtain ⟨v, st₀, t, T', L, h0, X', hL, e1, e2, ⟨⟨rv, h', hv, hq, hr'⟩, hz, hk⟩, stp⟩ := hr T hT X
  have hv := Outcome.returned.inj hv
  subst hv
  rw [h0] at hz hk
  obtain ⟨t2, a1, b1⟩ := kk rv h' T'.heap (locs ++ L) hq (by rw [e1]; exact hr') ⟨Nat.le_trans hS.1 (by rw [e1]; exact hz), fun q h1 h2 => by rw [e1, hk q (Nat.lt_of_lt_of_le h1 hS.1) h2]; exact hS.2.1 q h1 h2, fun q hq => by
      rcases List.mem_append.mp hq with h | h
      · exact hS.2.2 q h
      · exact hL q h⟩ T' rfl X'
  exact ⟨t2, stp t2 a1, b1⟩
end PXR
theorem wp_topi {G : px_G} {D C S : Nat} {M : px_M} {pc : Nat} {ls : px_L} {st : List Value} {h : px_H} {Q : Option Value → px_H → Prop} {x : Int32} (k : ∀ y : Int32, y = x → px_W G D C S M pc ls (.int y :: st) h Q) : px_W G D C S M pc ls (.int x :: st) h Q := k x rfl
section PXCALL
variable {G : px_G} {D D' C C1 C2 S S1 S2 : Nat} {M M' : px_M} {pc idx : Nat} {ls : px_L} {st stk as : List Value} {h : px_H} {Q : Option Value → px_H → Prop}
theorem px_pre {s U : State} {args : Array Value} {H : Heap} {locs : List Loc} {meth : Method} {c : Code} {p : Program} {m : MethodId} {h : px_H} (cx : px_X G M p s m args meth c) (hS : va_S (px_A G) s.heap H locs) (hR : px_R G h H) (hU : U.heap = H) (hW : s.WarmedH U.vm) {as : List Value} : px_Pc G h as (as.map (px_v G)).toArray U :=
  ⟨rfl, by rw [hU]; exact Nat.le_trans cx.2.2.2.2.2.2.2.2.2.2 hS.1, by rw [hU]; exact hR, va_K.moved hW.alike cx.2.2.2.2.2.2.2.2.1, by rw [hU]; exact px_RO.warm cx.2.2.2.2.2.2.2.2.2.1 hW hS, fun w hw hg => px_bad_warm hW w (List.mem_filter.mp hw).2 hg (cx.2.2.2.2.2.2.1 w hw)⟩
theorem wp_callV {ci y : Nat} {fs : List Value} {r : vw_C} (d : decode M.2.1 pc = .ok (.invokevirtual idx, 3)) (hci : px_cls[ci]? = some r) (w1 : Cond.methodLink M.1.cls idx M'.1 ∈ px_tb) (w2 : Cond.instanceMethod M'.1 ∈ px_tb) (w3 : Cond.selects r.1 M'.1 M'.1 ∈ px_tb) (he : h[y]? = some (.inr (ci, fs))) (hok : px_ok M' as.length) (hln : (px_sl (.ref y :: as)).length ≤ M'.2.2.1) (hstk : stk = as.reverse ++ .ref y :: st) (hst : (st.map fun v => v.category).sum ≤ 8) (hD : D' + 1 ≤ D) (hC : C = C1 + C2) (hS0 : S = S1 + S2) (hw : px_W G D' C1 S1 M' 0 (px_ent M'.2.2.1 (.ref y :: as)) [] h (fun rv h1 => px_W G D C2 S2 M (pc + 3) ls (px_ret rv st) h1 Q)) : px_W G D C S M pc ls stk h Q := by
  intro p l e R s m args below meth c H locs cells slots lsr Qm cx hS hR hl hd hlo hc hk
  subst hstk
  subst hC
  subst hS0
  have hts := cx.2.2.2.2.2.2.1
  have hst' : ((st.map (px_v G)).map fun v => v.category).sum ≤ 8 := by rw [px_sum]; exact hst
  have hm61 := hok.2.2.2.2.2
  refine px_call (va_runV (As := as.map (px_v G)) (rest := st.map (px_v G)) ⟨cx.1, cx.2.1, cx.2.2.1, cx.2.2.2.2.2.1, hts⟩ (px_met (as := .ref y :: as) l hok.1 hln hw) ⟨⟨rfl, rfl, (by show D' + 1 ≤ R.frames; omega), (by show 8 + (M'.2.2.1 + 11) + 80 * D' ≤ R.locals; omega), px_pay hok hts, List.mem_cons_self, hts _ hok.2.1, hts _ hok.2.2.1, hok.2.2.2.1, px_num hok, hts _ w1⟩, hts _ w2, hts _ w3⟩ ⟨px_blind, px_recv cx.2.2.2.2.2.2.2.2.1 hR he hci, fun U hU hW => px_pre (as := .ref y :: as) cx hS hR hU hW⟩ rfl (by simp) hl.1 (by simp [px_v]) (lv_room hst') d ⟨by omega, by omega⟩) hS fun rv h1 H1 locs1 q1 hR1 hS1 => ?_
  have k1 := q1 p l e R s m args below meth c H1 locs1 (cells + C1) (slots + S1) lsr Qm cx hS1 hR1 hl hd (by omega) (by omega) (fun pc' lsr' H' locs' rv h' a1 a2 a3 a4 => by
    rw [show cells + C1 + C2 = cells + (C1 + C2) by omega, show slots + S1 + S2 = slots + (S1 + S2) by omega]
    exact hk pc' lsr' H' locs' rv h' a1 a2 a3 a4)
  cases rv <;> exact k1
theorem wp_callU {ci y : Nat} {fs : List Value} {r : vw_C} {x : MethodName} {owner : String} {b0 : ByteArray} {m0 : Nat} {r0 : Option FieldType} (d : decode M.2.1 pc = .ok (.invokevirtual idx, 3)) (hci : px_cls[ci]? = some r) (hxd : x.desc = M'.1.desc) (w1 : Cond.methodLink M.1.cls idx x ∈ px_tb) (w2 : Cond.sameMethod x.cls owner x.name x.desc ∈ px_tb) (w3 : Cond.selects r.1 x M'.1 ∈ px_tb) (w4 : Cond.instanceMethod M'.1 ∈ px_tb) (w5 : Cond.instanceMethod ⟨owner, x.name, x.desc⟩ ∈ px_tb) (w6 : Cond.code ⟨owner, x.name, x.desc⟩ b0 m0 r0 ∈ px_tb) (hown : owner ≠ "java/lang/invoke/MethodHandle" ∧ owner ≠ "java/lang/invoke/VarHandle") (he : h[y]? = some (.inr (ci, fs))) (hok : px_ok M' as.length) (hln : (px_sl (.ref y :: as)).length ≤ M'.2.2.1) (hstk : stk = as.reverse ++ .ref y :: st) (hst : (st.map fun v => v.category).sum ≤ 8) (hD : D' + 1 ≤ D) (hC : C = C1 + C2) (hS0 : S = S1 + S2) (hw : px_W G D' C1 S1 M' 0 (px_ent M'.2.2.1 (.ref y :: as)) [] h (fun rv h1 => px_W G D C2 S2 M (pc + 3) ls (px_ret rv st) h1 Q)) : px_W G D C S M pc ls stk h Q := by
  intro p l e R s m args below meth c H locs cells slots lsr Qm cx hS hR hl hd hlo hc hk
  subst hstk
  subst hC
  subst hS0
  have hts := cx.2.2.2.2.2.2.1
  have hst' : ((st.map (px_v G)).map fun v => v.category).sum ≤ 8 := by rw [px_sum]; exact hst
  have hm61 := hok.2.2.2.2.2
  refine px_call (va_runU (As := as.map (px_v G)) (rest := st.map (px_v G)) ⟨cx.1, cx.2.1, cx.2.2.1, cx.2.2.2.2.2.1, hts⟩ (px_met (as := .ref y :: as) l hok.1 hln hw) (C := r.1) (owner := owner) (x := x) ⟨⟨rfl, rfl, (by show D' + 1 ≤ R.frames; omega), (by show 8 + (M'.2.2.1 + 11) + 80 * D' ≤ R.locals; omega), px_pay hok hts, List.mem_cons_self⟩, hts _ hok.2.1, hts _ hok.2.2.1, hown, (by rw [hxd]; exact px_num hok), hts _ w1, hts _ w2, va_Decl.of (hts _ w5) (hts _ w6), hts _ w3, hts _ w4⟩ ⟨px_blind, px_recv cx.2.2.2.2.2.2.2.2.1 hR he hci, fun U hU hW => px_pre (as := .ref y :: as) cx hS hR hU hW⟩ rfl (by simp) hl.1 (by simp [px_v]) (lv_room hst') d ⟨by omega, by omega⟩) hS fun rv h1 H1 locs1 q1 hR1 hS1 => ?_
  have k1 := q1 p l e R s m args below meth c H1 locs1 (cells + C1) (slots + S1) lsr Qm cx hS1 hR1 hl hd (by omega) (by omega) (fun pc' lsr' H' locs' rv h' a1 a2 a3 a4 => by
    rw [show cells + C1 + C2 = cells + (C1 + C2) by omega, show slots + S1 + S2 = slots + (S1 + S2) by omega]
    exact hk pc' lsr' H' locs' rv h' a1 a2 a3 a4)
  cases rv <;> exact k1
theorem wp_callS (d : decode M.2.1 pc = .ok (.invokestatic idx, 3)) (w1 : Cond.methodLink M.1.cls idx M'.1 ∈ px_tb) (w2 : Cond.static M'.1 ∈ px_tb) (hok : px_ok M' as.length) (hln : (px_sl as).length ≤ M'.2.2.1) (hstk : stk = as.reverse ++ st) (hst : (st.map fun v => v.category).sum ≤ 8) (hD : D' + 1 ≤ D) (hC : C = C1 + C2) (hS0 : S = S1 + S2) (hw : px_W G D' C1 S1 M' 0 (px_ent M'.2.2.1 as) [] h (fun rv h1 => px_W G D C2 S2 M (pc + 3) ls (px_ret rv st) h1 Q)) : px_W G D C S M pc ls stk h Q := by
  intro p l e R s m args below meth c H locs cells slots lsr Qm cx hS hR hl hd hlo hc hk
  subst hstk
  subst hC
  subst hS0
  have hts := cx.2.2.2.2.2.2.1
  have hst' : ((st.map (px_v G)).map fun v => v.category).sum ≤ 8 := by rw [px_sum]; exact hst
  have hm61 := hok.2.2.2.2.2
  refine px_call (va_runS (As := as.map (px_v G)) (rest := st.map (px_v G)) ⟨cx.1, cx.2.1, cx.2.2.1, cx.2.2.2.2.2.1, hts⟩ (px_met (as := as) l hok.1 hln hw) ⟨⟨rfl, rfl, (by show D' + 1 ≤ R.frames; omega), (by show 8 + (M'.2.2.1 + 11) + 80 * D' ≤ R.locals; omega), px_pay hok hts, List.mem_cons_self, hts _ hok.2.1, hts _ hok.2.2.1, hok.2.2.2.1, px_num hok, hts _ w1⟩, hts _ w2⟩ ⟨px_blind, fun U hU hW => px_pre (as := as) cx hS hR hU hW⟩ rfl (by simp) hl.1 (by simp [px_v]) (lv_room hst') d ⟨by omega, by omega⟩) hS fun rv h1 H1 locs1 q1 hR1 hS1 => ?_
  have k1 := q1 p l e R s m args below meth c H1 locs1 (cells + C1) (slots + S1) lsr Qm cx hS1 hR1 hl hd (by omega) (by omega) (fun pc' lsr' H' locs' rv h' a1 a2 a3 a4 => by
    rw [show cells + C1 + C2 = cells + (C1 + C2) by omega, show slots + S1 + S2 = slots + (S1 + S2) by omega]
    exact hk pc' lsr' H' locs' rv h' a1 a2 a3 a4)
  cases rv <;> exact k1
theorem wp_callI {y : Nat} (hret : M'.2.2.2 = none) (d : decode M.2.1 pc = .ok (.invokespecial idx, 3)) (hin : M'.1.name = "<init>") (w1 : Cond.methodLink M.1.cls idx M'.1 ∈ px_tb) (w2 : Cond.instanceMethod M'.1 ∈ px_tb) (hok : px_ok M' as.length) (hln : (px_sl (.ref y :: as)).length ≤ M'.2.2.1) (hstk : stk = as.reverse ++ .ref y :: st) (hst : (st.map fun v => v.category).sum ≤ 8) (hD : D' + 1 ≤ D) (hC : C = C1 + C2) (hS0 : S = S1 + S2) (hw : px_W G D' C1 S1 M' 0 (px_ent M'.2.2.1 (.ref y :: as)) [] h (fun rv h1 => px_W G D C2 S2 M (pc + 3) ls (px_ret rv st) h1 Q)) : px_W G D C S M pc ls stk h Q := by
  intro p l e R s m args below meth c H locs cells slots lsr Qm cx hS hR hl hd hlo hc hk
  subst hstk
  subst hC
  subst hS0
  have hts := cx.2.2.2.2.2.2.1
  have hst' : ((st.map (px_v G)).map fun v => v.category).sum ≤ 8 := by rw [px_sum]; exact hst
  have hm61 := hok.2.2.2.2.2
  have hm := px_met (as := .ref y :: as) l hok.1 hln hw
  have h0 := hts _ hok.2.1
  have hpay := px_pay hok hts
  rw [hret] at hm h0 hpay
  refine px_call (va_runI (As := as.map (px_v G)) (rest := st.map (px_v G)) ⟨cx.1, cx.2.1, cx.2.2.1, cx.2.2.2.2.2.1, hts⟩ hm ⟨⟨rfl, rfl, (by show D' + 1 ≤ R.frames; omega), (by show 8 + (M'.2.2.1 + 11) + 80 * D' ≤ R.locals; omega), hpay, List.mem_cons_self, h0, hts _ hok.2.2.1, hok.2.2.2.1, px_num hok, hts _ w1⟩, hin, hts _ w2⟩ ⟨px_blind, fun U hU hW => px_pre (as := .ref y :: as) cx hS hR hU hW⟩ rfl (by simp) hl.1 (by simp [px_v]) (lv_room hst') d ⟨by omega, by omega⟩) hS fun rv h1 H1 locs1 q1 hR1 hS1 => ?_
  have k1 := q1 p l e R s m args below meth c H1 locs1 (cells + C1) (slots + S1) lsr Qm cx hS1 hR1 hl hd (by omega) (by omega) (fun pc' lsr' H' locs' rv h' a1 a2 a3 a4 => by
    rw [show cells + C1 + C2 = cells + (C1 + C2) by omega, show slots + S1 + S2 = slots + (S1 + S2) by omega]
    exact hk pc' lsr' H' locs' rv h' a1 a2 a3 a4)
  cases rv <;> exact k1
theorem wp_callIN {y : Nat} (hret : M'.2.2.2 = none) (d : decode M.2.1 pc = .ok (.invokespecial idx, 3)) (hin : M'.1.name = "<init>") {host : String} (w1 : Cond.methodLinkNest M.1.cls idx M'.1 host ∈ px_tb) (w2 : Cond.instanceMethod M'.1 ∈ px_tb) (hok : px_ok M' as.length) (hln : (px_sl (.ref y :: as)).length ≤ M'.2.2.1) (hstk : stk = as.reverse ++ .ref y :: st) (hst : (st.map fun v => v.category).sum ≤ 8) (hD : D' + 1 ≤ D) (hC : C = C1 + C2) (hS0 : S = S1 + S2) (hw : px_W G D' C1 S1 M' 0 (px_ent M'.2.2.1 (.ref y :: as)) [] h (fun rv h1 => px_W G D C2 S2 M (pc + 3) ls (px_ret rv st) h1 Q)) : px_W G D C S M pc ls stk h Q := by
  intro p l e R s m args below meth c H locs cells slots lsr Qm cx hS hR hl hd hlo hc hk
  subst hstk
  subst hC
  subst hS0
  have hts := cx.2.2.2.2.2.2.1
  have hst' : ((st.map (px_v G)).map fun v => v.category).sum ≤ 8 := by rw [px_sum]; exact hst
  have hm61 := hok.2.2.2.2.2
  have hm := px_met (as := .ref y :: as) l hok.1 hln hw
  have h0 := hts _ hok.2.1
  have hpay := px_pay hok hts
  rw [hret] at hm h0 hpay
  refine px_call (va_runIN (host := host) (As := as.map (px_v G)) (rest := st.map (px_v G)) ⟨cx.1, cx.2.1, cx.2.2.1, cx.2.2.2.2.2.1, hts⟩ hm ⟨⟨⟨rfl, rfl, (by show D' + 1 ≤ R.frames; omega), (by show 8 + (M'.2.2.1 + 11) + 80 * D' ≤ R.locals; omega), hpay, List.mem_cons_self⟩, h0, hts _ hok.2.2.1, hok.2.2.2.1, px_num hok, hts _ w1⟩, hin, hts _ w2⟩ ⟨px_blind, fun U hU hW => px_pre (as := .ref y :: as) cx hS hR hU hW⟩ rfl (by simp) hl.1 (by simp [px_v]) (lv_room hst') d ⟨by omega, by omega⟩) hS fun rv h1 H1 locs1 q1 hR1 hS1 => ?_
  have k1 := q1 p l e R s m args below meth c H1 locs1 (cells + C1) (slots + S1) lsr Qm cx hS1 hR1 hl hd (by omega) (by omega) (fun pc' lsr' H' locs' rv h' a1 a2 a3 a4 => by
    rw [show cells + C1 + C2 = cells + (C1 + C2) by omega, show slots + S1 + S2 = slots + (S1 + S2) by omega]
    exact hk pc' lsr' H' locs' rv h' a1 a2 a3 a4)
  cases rv <;> exact k1
theorem wp_callSU {ci y : Nat} {fs : List Value} {r : vw_C} (d : decode M.2.1 pc = .ok (.invokespecial idx, 3)) (hci : px_cls[ci]? = some r) (w1 : Cond.methodLink M.1.cls idx M'.1 ∈ px_tb) (w2 : Cond.sameMethod M'.1.cls M'.1.cls M'.1.name M'.1.desc ∈ px_tb) (w3 : Cond.superclass M.1.cls M'.1.cls ∈ px_tb) (w4 : Cond.instanceMethod M'.1 ∈ px_tb) (hno : M'.1.name ≠ "<init>") (he : h[y]? = some (.inr (ci, fs))) (hok : px_ok M' as.length) (hln : (px_sl (.ref y :: as)).length ≤ M'.2.2.1) (hstk : stk = as.reverse ++ .ref y :: st) (hst : (st.map fun v => v.category).sum ≤ 8) (hD : D' + 1 ≤ D) (hC : C = C1 + C2) (hS0 : S = S1 + S2) (hw : px_W G D' C1 S1 M' 0 (px_ent M'.2.2.1 (.ref y :: as)) [] h (fun rv h1 => px_W G D C2 S2 M (pc + 3) ls (px_ret rv st) h1 Q)) : px_W G D C S M pc ls stk h Q := by
  intro p l e R s m args below meth c H locs cells slots lsr Qm cx hS hR hl hd hlo hc hk
  subst hstk
  subst hC
  subst hS0
  have hts := cx.2.2.2.2.2.2.1
  have hst' : ((st.map (px_v G)).map fun v => v.category).sum ≤ 8 := by rw [px_sum]; exact hst
  have hm61 := hok.2.2.2.2.2
  refine px_call (va_runSU (As := as.map (px_v G)) (rest := st.map (px_v G)) (cx.2.2.2.2.2.2.2.2.1.1 ci r hci).2 ⟨cx.1, cx.2.1, cx.2.2.1, cx.2.2.2.2.2.1, hts⟩ (px_met (as := .ref y :: as) l hok.1 hln hw) ⟨⟨rfl, rfl, (by show D' + 1 ≤ R.frames; omega), (by show 8 + (M'.2.2.1 + 11) + 80 * D' ≤ R.locals; omega), px_pay hok hts, List.mem_cons_self⟩, hts _ w1, hts _ w2, hts _ w3, hts _ w4, hts _ hok.2.2.1, hts _ hok.2.1, hno, px_num hok⟩ ⟨px_blind, px_recv cx.2.2.2.2.2.2.2.2.1 hR he hci, fun U hU hW => px_pre (as := .ref y :: as) cx hS hR hU hW⟩ rfl (by simp) hl.1 (by simp [px_v]) (lv_room hst') d ⟨by omega, by omega⟩) hS fun rv h1 H1 locs1 q1 hR1 hS1 => ?_
  have k1 := q1 p l e R s m args below meth c H1 locs1 (cells + C1) (slots + S1) lsr Qm cx hS1 hR1 hl hd (by omega) (by omega) (fun pc' lsr' H' locs' rv h' a1 a2 a3 a4 => by
    rw [show cells + C1 + C2 = cells + (C1 + C2) by omega, show slots + S1 + S2 = slots + (S1 + S2) by omega]
    exact hk pc' lsr' H' locs' rv h' a1 a2 a3 a4)
  cases rv <;> exact k1
theorem wp_callSTR {i : Nat} (hi : i < 3) (d : decode M.2.1 pc = .ok (.invokevirtual idx, 3)) (w1 : Cond.methodLink M.1.cls idx M'.1 ∈ px_tb) (w2 : Cond.instanceMethod M'.1 ∈ px_tb) (w3 : Cond.selects "java/lang/String" M'.1 M'.1 ∈ px_tb) (hok : px_ok M' as.length) (hln : (px_sl (.retAddr (3 + i) :: as)).length ≤ M'.2.2.1) (hstk : stk = as.reverse ++ .retAddr (3 + i) :: st) (hst : (st.map fun v => v.category).sum ≤ 8) (hD : D' + 1 ≤ D) (hC : C = C1 + C2) (hS0 : S = S1 + S2) (hw : px_W G D' C1 S1 M' 0 (px_ent M'.2.2.1 (.retAddr (3 + i) :: as)) [] h (fun rv h1 => px_W G D C2 S2 M (pc + 3) ls (px_ret rv st) h1 Q)) : px_W G D C S M pc ls stk h Q := by
  intro p l e R s m args below meth c H locs cells slots lsr Qm cx hS hR hl hd hlo hc hk
  subst hstk
  subst hC
  subst hS0
  have hts := cx.2.2.2.2.2.2.1
  have hst' : ((st.map (px_v G)).map fun v => v.category).sum ≤ 8 := by rw [px_sum]; exact hst
  have hm61 := hok.2.2.2.2.2
  obtain ⟨-, -, -, -, -, adK, adV, z1, z2, z3⟩ := cx.2.2.2.2.2.2.2.2.2.1
  have ev : px_v G (.retAddr (3 + i)) = .ref (adK i) := by show va_rf (G.2.2.2.1 (3 + i)) = _; rw [(z1 i hi).1]; rfl
  have hm := px_met (as := .retAddr (3 + i) :: as) l hok.1 hln hw
  refine px_call (va_runV (As := as.map (px_v G)) (rest := st.map (px_v G)) (b := adK i) ⟨cx.1, cx.2.1, cx.2.2.1, cx.2.2.2.2.2.1, hts⟩ hm ⟨⟨rfl, rfl, (by show D' + 1 ≤ R.frames; omega), (by show 8 + (M'.2.2.1 + 11) + 80 * D' ≤ R.locals; omega), px_pay hok hts, List.mem_cons_self, hts _ hok.2.1, hts _ hok.2.2.1, hok.2.2.2.1, px_num hok, hts _ w1⟩, hts _ w2, hts _ w3⟩ ⟨px_blind, vk_recv z2 hi hS, fun U hU hW => by
    have q := px_pre (as := .retAddr (3 + i) :: as) cx hS hR hU hW
    rw [List.map_cons, ev] at q
    exact q⟩ rfl (by simp) hl.1 (by simp [ev]) (lv_room hst') d ⟨by omega, by omega⟩) hS fun rv h1 H1 locs1 q1 hR1 hS1 => ?_
  have k1 := q1 p l e R s m args below meth c H1 locs1 (cells + C1) (slots + S1) lsr Qm cx hS1 hR1 hl hd (by omega) (by omega) (fun pc' lsr' H' locs' rv h' a1 a2 a3 a4 => by
    rw [show cells + C1 + C2 = cells + (C1 + C2) by omega, show slots + S1 + S2 = slots + (S1 + S2) by omega]
    exact hk pc' lsr' H' locs' rv h' a1 a2 a3 a4)
  cases rv <;> exact k1
/-- java.lang.Object's <init> -/
theorem px_objI : Cond.instanceMethod Lib.objectInit ∈ px_tb ∧ Cond.code Lib.objectInit ⟨#[0xb1]⟩ 1 none ∈ px_tb := ⟨px_in (by decide +kernel) rfl, px_in (by decide +kernel) rfl⟩
theorem wp_objInit {y : Nat} (d : decode M.2.1 pc = .ok (.invokespecial idx, 3)) (w1 : Cond.methodLink M.1.cls idx Lib.objectInit ∈ px_tb) (hst : (st.map fun v => v.category).sum ≤ 8) (hD : 1 ≤ D) (k : px_W G D C S M (pc + 3) ls st h Q) : px_W G D C S M pc ls (.ref y :: st) h Q := by
  intro p l e R s m args below meth c H locs cells slots lsr Qm cx hS hR hl hd hlo hc hk
  have hts := cx.2.2.2.2.2.2.1
  have hst' : ((st.map (px_v G)).map fun v => v.category).sum ≤ 8 := by rw [px_sum]; exact hst
  exact W.objInit cx.1 cx.2.1 cx.2.2.2.2.2.1 (hts _ w1) (hts _ px_objI.1) (hts _ px_objI.2) (g := F0 m pc lsr (.ref (G.1 + y) :: st.map (px_v G))) rfl (hl.1.trans cx.2.2.1.symm) rfl d (by omega) (by show 2 * 0 + _ + 12 ≤ _; omega) (k p l e R s m args below meth c H locs cells slots lsr Qm cx hS hR hl hd hlo hc hk)
theorem px_mathI : Cond.static Lib.Math.max.name ∈ px_tb ∧ Cond.static Lib.Math.min.name ∈ px_tb ∧ Cond.initialized "java/lang/Math" ∈ px_tb ∧ Cond.code Lib.Math.max.name Lib.Math.max.code 2 (some .int) ∈ px_tb ∧ Cond.code Lib.Math.min.name Lib.Math.min.code 2 (some .int) ∈ px_tb := ⟨px_in (by decide +kernel) rfl, px_in (by decide +kernel) rfl, px_in (by decide +kernel) rfl, px_in (by decide +kernel) rfl, px_in (by decide +kernel) rfl⟩
theorem wp_max {x y : Int32} (d : decode M.2.1 pc = .ok (.invokestatic idx, 3)) (w1 : Cond.methodLink M.1.cls idx Lib.Math.max.name ∈ px_tb) (hst : (st.map fun v => v.category).sum ≤ 8) (hD : 1 ≤ D) (k : px_W G D C S M (pc + 3) ls (.int (if x < y then y else x) :: st) h Q) : px_W G D C S M pc ls (.int y :: .int x :: st) h Q := by
  intro p l e R s m args below meth c H locs cells slots lsr Qm cx hS hR hl hd hlo hc hk
  have hts := cx.2.2.2.2.2.2.1
  have hst' : ((st.map (px_v G)).map fun v => v.category).sum ≤ 8 := by rw [px_sum]; exact hst
  exact va_mmax cx.1 cx.2.1 (cx.2.2.1.trans hl.1.symm) cx.2.2.2.2.2.1 (hts _ w1) (hts _ px_mathI.1) (hts _ px_mathI.2.2.1) (hts _ px_mathI.2.2.2.1) (by omega) (by omega) (by omega) (by omega) d (k p l e R s m args below meth c H locs cells slots lsr Qm cx hS hR hl hd hlo hc hk)
theorem wp_min {x y : Int32} (d : decode M.2.1 pc = .ok (.invokestatic idx, 3)) (w1 : Cond.methodLink M.1.cls idx Lib.Math.min.name ∈ px_tb) (hst : (st.map fun v => v.category).sum ≤ 8) (hD : 1 ≤ D) (k : px_W G D C S M (pc + 3) ls (.int (if y < x then y else x) :: st) h Q) : px_W G D C S M pc ls (.int y :: .int x :: st) h Q := by
  intro p l e R s m args below meth c H locs cells slots lsr Qm cx hS hR hl hd hlo hc hk
  have hts := cx.2.2.2.2.2.2.1
  have hst' : ((st.map (px_v G)).map fun v => v.category).sum ≤ 8 := by rw [px_sum]; exact hst
  exact va_mmin cx.1 cx.2.1 (cx.2.2.1.trans hl.1.symm) cx.2.2.2.2.2.1 (hts _ w1) (hts _ px_mathI.2.1) (hts _ px_mathI.2.2.1) (hts _ px_mathI.2.2.2.2) (by omega) (by omega) (by omega) (by omega) d (k p l e R s m args below meth c H locs cells slots lsr Qm cx hS hR hl hd hlo hc hk)
end PXCALL
