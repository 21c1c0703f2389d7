/-! the words that go along with a call -/
def px_wd (w : Cond) : Bool := goodWord w || match w with
  | .arrayOver (.object _) => true
  | .castable _ _ => true
  | .methodLinkNest _ _ _ _ => true
  | _ => false
def px_tb : List Cond := lw_tbl.filter px_wd
theorem px_in {w : Cond} (h : w ∈ lw_tbl) (hw : px_wd w = true) : w ∈ px_tb := List.mem_filter.mpr ⟨h, hw⟩
theorem px_lay (C : String) (T : u_T) (k : Nat) : px_wd (u_lay C T k) = true := by
  unfold u_lay
  split <;> rfl
theorem px_cls_tb (ci : Nat) (r : vw_C) (h : px_cls[ci]? = some r) : (∀ w ∈ u_ws r.1 r.2.1 r.2.2, w ∈ px_tb) ∧ (∃ ty : Nat → FieldType, ∀ k, k < r.2.2 → parseFieldDescriptor (r.2.1 k).2.2.1 = some (ty k)) ∧ (∀ a, a < r.2.2 → ∀ b, b < r.2.2 → a ≠ b → (r.2.1 a).2.1 ≠ (r.2.1 b).2.1) := by
  obtain ⟨h1, h2, h3⟩ := px_cls_in ci r h
  refine ⟨fun w hw => px_in (h1 w hw) ?_, h2, h3⟩
  obtain ⟨k, -, rfl⟩ := List.mem_map.mp hw
  exact px_lay _ _ _
/-! A PURE LAYER OVER THE MACHINE: the heap from the law's entry on is a list of pure cells; a reference is its place in that list (at the address base + place). -/
abbrev px_E : Type := (FieldType × vp_A) ⊕ (Nat × List Value)
abbrev px_H : Type := List px_E
abbrev px_L : Type := List (Option Value)
/-- base; class numbers and slots; array classes; cells that are only read (0 the script, 1 ABOVE, 2 a formatter or null, 3.. strings, 6.. their bytes); the script's length and ints -/
abbrev px_G : Type := Nat × va_G × (FieldType → ClassId) × (Nat → Option Nat) × (Nat × (Nat → Int32))
/-- name, bytes, locals, answer's type -/
abbrev px_M : Type := MethodName × ByteArray × Nat × Option FieldType
/-- a pure value's meaning; .retAddr j stands for the j-th cell that is only read -/
def px_v (G : px_G) : Value → Value
  | .ref k => .ref (G.1 + k)
  | .retAddr j => va_rf (G.2.2.2.1 j)
  | .int x => .int x
  | .long x => .long x
  | .float x => .float x
  | .double x => .double x
  | .null => .null
def px_c (G : px_G) : vp_A → vp_A
  | (n, .inr (.inr (.inr (.inr f)))) => (n, .inr (.inr (.inr (.inr fun j => (f j).map (fun k => G.1 + k)))))
  | (n, .inl f) => (n, .inl f)
  | (n, .inr (.inl f)) => (n, .inr (.inl f))
  | (n, .inr (.inr (.inl f))) => (n, .inr (.inr (.inl f)))
  | (n, .inr (.inr (.inr (.inl f)))) => (n, .inr (.inr (.inr (.inl f))))
def px_e (G : px_G) : px_E → va_E
  | .inl q => .inl (G.2.2.1 q.1, px_c G q.2)
  | .inr o => .inr (o.1, o.2.map (px_v G))
def px_ws (G : px_G) (h : px_H) : va_W := h.mapIdx (fun k e => (G.1 + k, px_e G e))
def px_A (G : px_G) : Nat → Prop := fun q => G.1 ≤ q
def px_tys (G : px_G) : List (ClassId × FieldType) := [(G.2.2.1 .int, .int), (G.2.2.1 .long, .long), (G.2.2.1 .char, .char), (G.2.2.1 .boolean, .boolean), (G.2.2.1 (.object "TubeChain$Man"), .object "TubeChain$Man"), (G.2.2.1 (.object "TubeChain$Scaffold"), .object "TubeChain$Scaffold"), (G.2.2.1 (.object "TubeChain$Tape"), .object "TubeChain$Tape")]
def px_above (j : Nat) : Int32 := [-1, 0, 0, 0, 1, 2, 3].getD j 0
def px_len : List Nat := [25, 6, 3]
def px_byt : List (List Int32) := [[115, 108, 111, 119, 46, 113, 117, 105, 99, 107, 114, 105, 115, 101, 46, 114, 101, 115, 116, 46, 112, 117, 108, 108, 46], [109, 107, 108, 104, 116, 118], [60, 61, 62]]
def px_txi (i : Nat) : Nat := [76, 95, 101].getD i 0
/-- the classes of men that aren't TOLD -/
def px_nt : List String := ["TubeChain$Man", "TubeChain$Strong", "TubeChain$Gloved", "TubeChain$Tiring", "TubeChain$Calling", "TubeChain$Slipping"]
def px_txt (i : Nat) : String := ["slow.quickrise.rest.pull.", "mklhtv", "<=>"].getD i ""
/-- what is only read -/
def px_RO (G : px_G) (U : State) (H : Heap) : Prop :=
  (∃ b, G.2.2.2.1 0 = some b ∧ va_X b G.2.2.2.2.1 G.2.2.2.2.2 U H ∧ b < H.size ∧ ¬ px_A G b) ∧
  (∃ a, G.2.2.2.1 1 = some a ∧ va_Z "TubeChain" "ABOVE" "[I" (.ref a) (px_A G) U H ∧ va_T .int a 7 (fun j => .int (px_above j)) (px_A G) U H) ∧
  va_Z "jdk/internal/util/Preconditions" "SIOOBE_FORMATTER" "Ljava/util/function/BiFunction;" (va_rf (G.2.2.2.1 2)) (px_A G) U H ∧
  va_Z "java/lang/String" "COMPACT_STRINGS" "Z" (.int 1) (px_A G) U H ∧
  (∀ n, n ∈ px_nt → va_Nc n "TubeChain$Told" U) ∧
  ∃ adK adV : Nat → Nat, (∀ i, i < 3 → G.2.2.2.1 (3 + i) = some (adK i) ∧ G.2.2.2.1 (6 + i) = some (adV i)) ∧ vk_S 3 px_len px_byt adK adV (px_A G) U H ∧ ∀ i, i < 3 → vk_R "TubeChain$Scaffold" (px_txi i) (px_txt i) (adK i) U
def px_R (G : px_G) (h : px_H) (H : Heap) : Prop := H.size = G.1 + h.length ∧ va_P G.2.1 px_cls (px_ws G h) H
def px_X (G : px_G) (M : px_M) (p : Program) (s : State) (m : MethodId) (args : Array Value) (meth : Method) (c : Code) : Prop :=
  p.tables.exec = Jvm.exec ∧ c.code = M.2.1 ∧ c.maxLocals = M.2.2.1 ∧ meth.sig.returnType = M.2.2.2 ∧ meth.locks = false ∧ s.vm.findClass M.1.cls = some m.cls ∧ (∀ w ∈ px_tb, w.before args s = true) ∧ meth.name = M.1.name ∧ va_K G.2.1 px_cls (px_tys G) s ∧ px_RO G s s.heap ∧ G.1 ≤ s.heap.size
/-- the locals: what is told of them holds -/
def px_lr (G : px_G) (n : Nat) (ls : px_L) (lsr : Array Slot) : Prop := lsr.size = n ∧ lv_wf lsr ∧ ∀ (i : Nat) (v : Value), ls[i]? = some (some v) → lsr[i]? = some (.val (px_v G v))
/-- the return instruction that answers rv -/
def px_fin (M : px_M) (pc : Nat) (rv : Option Value) : Prop :=
  (rv = none ∧ M.2.2.2 = none ∧ decode M.2.1 pc = .ok (.return_, 1)) ∨
  (∃ x ty, rv = some (.int x) ∧ M.2.2.2 = some ty ∧ narrow ty (.int x) = .int x ∧ decode M.2.1 pc = .ok (.ireturn, 1)) ∨
  (∃ x, rv = some (.long x) ∧ M.2.2.2 = some .long ∧ decode M.2.1 pc = .ok (.lreturn, 1)) ∨
  (∃ k ty, rv = some (.ref k) ∧ M.2.2.2 = some ty ∧ ((∃ n, ty = .object n) ∨ ∃ t, ty = .array t) ∧ decode M.2.1 pc = .ok (.areturn, 1))
/-- from place pc of M on, with these locals, this stack and this heap, in D calls' room, making at most C cells of S slots: it returns, and Q holds of the answer and the heap -/
def px_W (G : px_G) (D C S : Nat) (M : px_M) (pc : Nat) (ls : px_L) (st : List Value) (h : px_H) (Q : Option Value → px_H → Prop) : Prop :=
  ∀ (p : Program) (l : Launch) (e : Env) (R : Room) (s : State) (m : MethodId) (args : Array Value) (below : List Frame) (meth : Method) (c : Code) (H : Heap) (locs : List Loc) (cells slots : Nat) (lsr : Array Slot) (Qm : State → Prop),
    px_X G M p s m args meth c → va_S (px_A G) s.heap H locs → px_R G h H → px_lr G M.2.2.1 ls lsr → (D ≤ R.frames ∧ 80 * D ≤ R.locals) → cells + C ≤ R.cells → slots + S ≤ R.slots →
    (∀ (pc' : Nat) (lsr' : Array Slot) (H' : Heap) (locs' : List Loc) (rv : Option Value) (h' : px_H), Q rv h' → px_fin M pc' rv → px_R G h' H' → va_S (px_A G) s.heap H' locs' → W p l e R s m args below meth c H' locs' (cells + C) (slots + S) Qm (F0 m pc' lsr' (rv.toList.map (px_v G)))) →
    W p l e R s m args below meth c H locs cells slots Qm (F0 m pc lsr (st.map (px_v G)))
/-! the heap as a list -/
theorem px_ws_get {G : px_G} {h : px_H} {k : Nat} {e : px_E} (he : h[k]? = some e) : (px_ws G h)[k]? = some (G.1 + k, px_e G e) := by
  simp [px_ws, List.getElem?_mapIdx, he]
theorem px_ws_of {G : px_G} {h : px_H} {k : Nat} {q : Nat × va_E} (hq : (px_ws G h)[k]? = some q) : ∃ e, h[k]? = some e ∧ q = (G.1 + k, px_e G e) := by
  rw [px_ws, List.getElem?_mapIdx] at hq
  cases he : h[k]? with
  | none => rw [he] at hq; cases hq
  | some e => rw [he] at hq; exact ⟨e, rfl, (Option.some.inj hq).symm⟩
theorem px_D {G : px_G} {h : px_H} : va_D (px_A G) (px_ws G h) := by
  refine ⟨fun i j p q hp hq hpq => ?_, fun k q hq => ?_⟩
  · obtain ⟨e1, -, rfl⟩ := px_ws_of hp
    obtain ⟨e2, -, rfl⟩ := px_ws_of hq
    have : G.1 + i = G.1 + j := hpq
    omega
  · obtain ⟨e1, -, rfl⟩ := px_ws_of hq
    exact Nat.le_add_right _ _
theorem px_R.at {G : px_G} {h : px_H} {H : Heap} {k : Nat} {e : px_E} (hR : px_R G h H) (he : h[k]? = some e) : va_at G.2.1 px_cls (G.1 + k, px_e G e) H := hR.2 k _ (px_ws_get he)
theorem px_R.mk {G : px_G} {h : px_H} {H : Heap} (hz : H.size = G.1 + h.length) (ha : ∀ k e, h[k]? = some e → va_at G.2.1 px_cls (G.1 + k, px_e G e) H) : px_R G h H := by
  refine ⟨hz, fun k q hq => ?_⟩
  obtain ⟨e, he, rfl⟩ := px_ws_of hq
  exact ha k e he
theorem px_R.set {G : px_G} {h : px_H} {H H1 : Heap} {k : Nat} {e0 e : px_E} (hR : px_R G h H) (he : h[k]? = some e0) (hz : H1.size = H.size) (ha : va_at G.2.1 px_cls (G.1 + k, px_e G e) H1) (oq : ∀ q : Nat, q ≠ G.1 + k → H1[q]? = H[q]?) : px_R G (h.set k e) H1 := by
  have hl := (List.getElem?_eq_some_iff.mp he).1
  refine px_R.mk (by rw [hz, hR.1, List.length_set]) fun j x hx => ?_
  by_cases hj : j = k
  · subst hj
    rw [List.getElem?_set_self hl] at hx
    cases hx
    exact ha
  · rw [List.getElem?_set_ne (Ne.symm hj)] at hx
    exact (hR.at hx).kept (oq _ (by show G.1 + j ≠ G.1 + k; omega))
theorem px_R.push {G : px_G} {h : px_H} {H H1 : Heap} {e : px_E} (hR : px_R G h H) (hz : H1.size = H.size + 1) (ha : va_at G.2.1 px_cls (G.1 + h.length, px_e G e) H1) (oq : ∀ q : Nat, q < H.size → H1[q]? = H[q]?) : px_R G (h ++ [e]) H1 := by
  refine px_R.mk (by rw [hz, hR.1]; simp; omega) fun j x hx => ?_
  by_cases hj : j < h.length
  · rw [List.getElem?_append_left hj] at hx
    exact (hR.at hx).kept (oq _ (by rw [hR.1]; show G.1 + j < _; omega))
  · rw [List.getElem?_append_right (by omega)] at hx
    have hz0 : j - h.length < 1 := (List.getElem?_eq_some_iff.mp hx).1
    have hj2 : j = h.length := by omega
    subst hj2
    simp at hx
    subst hx
    exact ha
/-! what is only read, seen from another state -/
theorem px_RO.warm {G : px_G} {s U : State} {H : Heap} {locs : List Loc} (h : px_RO G s s.heap) (hW : s.WarmedH U.vm) (hS : va_S (px_A G) s.heap H locs) : px_RO G U H := by
  obtain ⟨⟨b, b1, b2, b3, b4⟩, ⟨a, a1, a2, a3⟩, f1, c1, nt, adK, adV, k1, k2, k3⟩ := h
  have hv := hW.alike
  have hq := hS.2.1
  exact ⟨⟨b, b1, (b2.kept (hq b b3 b4)).moved hv, Nat.lt_of_lt_of_le b3 hS.1, b4⟩, ⟨a, a1, (a2.kept hq).moved hv, (a3.kept hq).moved hv⟩, (f1.kept hq).moved hv, (c1.kept hq).moved hv, fun n hn => (nt n hn).moved hv, adK, adV, k1, (k2.kept hq).moved hv, fun i hi => (k3 i hi).warm hW⟩
theorem px_RO.calling {G : px_G} {U : State} {f : JFrame} {mk : MethodId} {a : Array Value} (h : px_RO G U U.heap) : px_RO G (U.calling f mk a) (U.calling f mk a).heap := by
  obtain ⟨⟨b, b1, b2, b3, b4⟩, ⟨x, a1, a2, a3⟩, f1, c1, nt, adK, adV, k1, k2, k3⟩ := h
  have hv : U.vm.Alike (U.calling f mk a).vm := Vm.Alike.refl U.vm
  exact ⟨⟨b, b1, b2.moved hv, b3, b4⟩, ⟨x, a1, a2.moved hv, a3.moved hv⟩, f1.moved hv, c1.moved hv, fun n hn => (nt n hn).moved hv, adK, adV, k1, k2.moved hv, fun i hi => (k3 i hi).same rfl⟩
