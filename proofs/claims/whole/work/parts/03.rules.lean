/-! locals -/
/-- a long right below place i goes when i is stored -/
def px_c2 (ls : px_L) (i : Nat) : px_L := match i with
  | 0 => ls
  | j + 1 => match ls[j]? with
    | some (some (.long _)) => ls.set j none
    | some (some (.double _)) => ls.set j none
    | _ => ls
def px_st1 (ls : px_L) (i : Nat) (v : Value) : px_L := (px_c2 ls i).set i (some v)
def px_st2 (ls : px_L) (i : Nat) (v : Value) : px_L := ((px_c2 ls i).set i (some v)).set (i + 1) none
def px_ll (G : px_G) (ls : px_L) : List (Nat × Value) := (ls.zipIdx).filterMap (fun q => q.1.map (fun v => (q.2, px_v G v)))
theorem px_cat (G : px_G) (v : Value) : (px_v G v).category = v.category := by
  cases v with
  | retAddr j =>
    show (va_rf _).category = 1
    cases G.2.2.2.1 j <;> rfl
  | _ => rfl
theorem px_ll_mem {G : px_G} {ls : px_L} {q : Nat × Value} (h : q ∈ px_ll G ls) : ∃ v, ls[q.1]? = some (some v) ∧ q.2 = px_v G v := by
  obtain ⟨a, ha, hb⟩ := List.mem_filterMap.mp h
  obtain ⟨x, i⟩ := a
  cases x with
  | none => cases hb
  | some v =>
    cases hb
    exact ⟨v, List.mem_zipIdx_iff_getElem?.mp ha, rfl⟩
theorem px_ll_in {G : px_G} {ls : px_L} {i : Nat} {v : Value} (h : ls[i]? = some (some v)) : (i, px_v G v) ∈ px_ll G ls :=
  List.mem_filterMap.mpr ⟨(some v, i), List.mem_zipIdx_iff_getElem?.mpr h, rfl⟩
theorem px_lr.has {G : px_G} {n : Nat} {ls : px_L} {lsr : Array Slot} (h : px_lr G n ls lsr) : lv_has lsr n (px_ll G ls) := by
  refine ⟨h.1, h.2.1, fun q hq => ?_⟩
  obtain ⟨v, h1, h2⟩ := px_ll_mem hq
  rw [h2]
  exact h.2.2 _ _ h1
theorem px_lr.of {G : px_G} {n : Nat} {ls : px_L} {lsr : Array Slot} {l : List (Nat × Value)} (h : lv_has lsr n l) (hl : ∀ (i : Nat) (v : Value), ls[i]? = some (some v) → (i, px_v G v) ∈ l) : px_lr G n ls lsr :=
  ⟨h.1, h.2.1, fun i v hv => h.2.2 _ (hl i v hv)⟩
theorem px_c2_get {ls : px_L} {i j : Nat} {v : Value} (h : (px_c2 ls i)[j]? = some (some v)) (hji : j ≠ i) : ls[j]? = some (some v) ∧ ¬ (j + 1 = i ∧ v.category = 2) := by
  unfold px_c2 at h
  cases i with
  | zero => exact ⟨h, by omega⟩
  | succ k =>
    simp only at h
    by_cases hk : j = k
    · subst hk
      cases hx : ls[j]? with
      | none => rw [hx] at h; simp [hx] at h
      | some x =>
        have hlt : j < ls.length := (List.getElem?_eq_some_iff.mp hx).1
        cases x with
        | none => rw [hx] at h; simp [hx] at h
        | some w =>
          rw [hx] at h
          cases w with
          | long z => simp [hlt] at h
          | double z => simp [hlt] at h
          | _ => simp [hx] at h; subst h; exact ⟨rfl, fun z => by cases z.2⟩
    · refine ⟨?_, fun z => hk (by omega)⟩
      cases hx : ls[k]? with
      | none => rw [hx] at h; simpa using h
      | some x =>
        rw [hx] at h
        cases x with
        | none => simpa using h
        | some w => cases w <;> simpa [List.getElem?_set, hk, Ne.symm hk] using h
theorem px_lr.st1 {G : px_G} {n i : Nat} {ls : px_L} {lsr : Array Slot} {v : Value} (h : lv_has lsr n ((i, px_v G v) :: (px_ll G ls).filter (fun q => !(q.1 == i) && !(q.1 + 1 == i && q.2.category == 2)))) : px_lr G n (px_st1 ls i v) lsr := by
  refine px_lr.of h fun j w hw => ?_
  unfold px_st1 at hw
  by_cases hj : j = i
  · subst hj
    rw [List.getElem?_set] at hw
    split at hw
    · split at hw
      · cases hw; exact List.mem_cons_self
      · cases hw
    · exact absurd rfl ‹_›
  · rw [List.getElem?_set_ne (Ne.symm hj)] at hw
    obtain ⟨h1, h2⟩ := px_c2_get hw hj
    refine List.mem_cons_of_mem _ (List.mem_filter.mpr ⟨px_ll_in h1, ?_⟩)
    simp only [Bool.and_eq_true, Bool.not_eq_true', beq_eq_false_iff_ne, ne_eq, Bool.and_eq_false_iff]
    refine ⟨hj, ?_⟩
    by_cases hc : j + 1 = i
    · exact Or.inr (by rw [px_cat]; exact fun z => h2 ⟨hc, z⟩)
    · exact Or.inl hc
theorem px_lr.st2 {G : px_G} {n i : Nat} {ls : px_L} {lsr : Array Slot} {v : Value} (h : lv_has lsr n ((i, px_v G v) :: (px_ll G ls).filter (fun q => !(q.1 == i) && (!(q.1 == i + 1) && !(q.1 + 1 == i && q.2.category == 2))))) : px_lr G n (px_st2 ls i v) lsr := by
  refine px_lr.of h fun j w hw => ?_
  unfold px_st2 at hw
  by_cases hj1 : j = i + 1
  · subst hj1
    rw [List.getElem?_set] at hw
    split at hw
    · split at hw <;> cases hw
    · exact absurd rfl ‹_›
  rw [List.getElem?_set_ne (Ne.symm hj1)] at hw
  by_cases hj : j = i
  · subst hj
    rw [List.getElem?_set] at hw
    split at hw
    · split at hw
      · cases hw; exact List.mem_cons_self
      · cases hw
    · exact absurd rfl ‹_›
  · rw [List.getElem?_set_ne (Ne.symm hj)] at hw
    obtain ⟨h1, h2⟩ := px_c2_get hw hj
    refine List.mem_cons_of_mem _ (List.mem_filter.mpr ⟨px_ll_in h1, ?_⟩)
    simp only [Bool.and_eq_true, Bool.not_eq_true', beq_eq_false_iff_ne, ne_eq, Bool.and_eq_false_iff]
    refine ⟨hj, hj1, ?_⟩
    by_cases hc : j + 1 = i
    · exact Or.inr (by rw [px_cat]; exact fun z => h2 ⟨hc, z⟩)
    · exact Or.inl hc
/-- less is told -/
theorem px_lr.less {G : px_G} {n : Nat} {ls ls' : px_L} {lsr : Array Slot} (h : px_lr G n ls lsr) (hl : ∀ (i : Nat) (v : Value), ls'[i]? = some (some v) → ls[i]? = some (some v)) : px_lr G n ls' lsr := ⟨h.1, h.2.1, fun i v hv => h.2.2 i v (hl i v hv)⟩
def px_leb : px_L → px_L → Prop
  | [], _ => True
  | none :: l, [] => px_leb l []
  | none :: l, _ :: k => px_leb l k
  | some _ :: _, [] => False
  | some v :: l, x :: k => x = some v ∧ px_leb l k
theorem px_leb_nil : ∀ (a : px_L), px_leb a [] → ∀ (i : Nat) (v : Value), a[i]? = some (some v) → False
  | [], _, i, v, hv => by simp at hv
  | none :: l, h, 0, v, hv => by simp at hv
  | none :: l, h, i + 1, v, hv => px_leb_nil l h i v (by simpa using hv)
  | some _ :: _, h, _, _, _ => h
theorem px_leb_at : ∀ (a b : px_L), px_leb a b → ∀ (i : Nat) (v : Value), a[i]? = some (some v) → b[i]? = some (some v)
  | [], b, _, i, v, hv => by simp at hv
  | a, [], h, i, v, hv => (px_leb_nil a h i v hv).elim
  | none :: l, x :: k, h, 0, v, hv => by simp at hv
  | none :: l, x :: k, h, i + 1, v, hv => by simpa using px_leb_at l k h i v (by simpa using hv)
  | some w :: l, x :: k, h, 0, v, hv => by
    rw [h.1]
    simpa using hv
  | some w :: l, x :: k, h, i + 1, v, hv => by simpa using px_leb_at l k h.2 i v (by simpa using hv)
section PXW
variable {G : px_G} {D C S : Nat} {M : px_M} {pc : Nat} {ls : px_L} {st : List Value} {h : px_H} {Q : Option Value → px_H → Prop}
theorem wp_iadd {x y : Int32} (d : decode M.2.1 pc = .ok (.iadd, 1)) (k : px_W G D C S M (pc + 1) ls (.int (x + y) :: st) h Q) : px_W G D C S M pc ls (.int y :: .int x :: st) h Q := by
  intro p l e R s m args below meth c H locs cells slots lsr Qm cx hS hR hl hd hlo hc hk
  exact lv_iadd cx.1 cx.2.1 d (k p l e R s m args below meth c H locs cells slots lsr Qm cx hS hR hl hd hlo hc hk)
theorem wp_isub {x y : Int32} (d : decode M.2.1 pc = .ok (.isub, 1)) (k : px_W G D C S M (pc + 1) ls (.int (x - y) :: st) h Q) : px_W G D C S M pc ls (.int y :: .int x :: st) h Q := by
  intro p l e R s m args below meth c H locs cells slots lsr Qm cx hS hR hl hd hlo hc hk
  exact lv_isub cx.1 cx.2.1 d (k p l e R s m args below meth c H locs cells slots lsr Qm cx hS hR hl hd hlo hc hk)
theorem wp_imul {x y : Int32} (d : decode M.2.1 pc = .ok (.imul, 1)) (k : px_W G D C S M (pc + 1) ls (.int (x * y) :: st) h Q) : px_W G D C S M pc ls (.int y :: .int x :: st) h Q := by
  intro p l e R s m args below meth c H locs cells slots lsr Qm cx hS hR hl hd hlo hc hk
  exact lv_imul cx.1 cx.2.1 d (k p l e R s m args below meth c H locs cells slots lsr Qm cx hS hR hl hd hlo hc hk)
theorem wp_iand {x y : Int32} (d : decode M.2.1 pc = .ok (.iand, 1)) (k : px_W G D C S M (pc + 1) ls (.int (x &&& y) :: st) h Q) : px_W G D C S M pc ls (.int y :: .int x :: st) h Q := by
  intro p l e R s m args below meth c H locs cells slots lsr Qm cx hS hR hl hd hlo hc hk
  exact lv_iand cx.1 cx.2.1 d (k p l e R s m args below meth c H locs cells slots lsr Qm cx hS hR hl hd hlo hc hk)
theorem wp_ior {x y : Int32} (d : decode M.2.1 pc = .ok (.ior, 1)) (k : px_W G D C S M (pc + 1) ls (.int (x ||| y) :: st) h Q) : px_W G D C S M pc ls (.int y :: .int x :: st) h Q := by
  intro p l e R s m args below meth c H locs cells slots lsr Qm cx hS hR hl hd hlo hc hk
  exact lv_ior cx.1 cx.2.1 d (k p l e R s m args below meth c H locs cells slots lsr Qm cx hS hR hl hd hlo hc hk)
theorem wp_ixor {x y : Int32} (d : decode M.2.1 pc = .ok (.ixor, 1)) (k : px_W G D C S M (pc + 1) ls (.int (x ^^^ y) :: st) h Q) : px_W G D C S M pc ls (.int y :: .int x :: st) h Q := by
  intro p l e R s m args below meth c H locs cells slots lsr Qm cx hS hR hl hd hlo hc hk
  exact lv_ixor cx.1 cx.2.1 d (k p l e R s m args below meth c H locs cells slots lsr Qm cx hS hR hl hd hlo hc hk)
theorem wp_ishl {x y : Int32} (d : decode M.2.1 pc = .ok (.ishl, 1)) (k : px_W G D C S M (pc + 1) ls (.int (x <<< (y &&& 31)) :: st) h Q) : px_W G D C S M pc ls (.int y :: .int x :: st) h Q := by
  intro p l e R s m args below meth c H locs cells slots lsr Qm cx hS hR hl hd hlo hc hk
  exact lv_ishl cx.1 cx.2.1 d (k p l e R s m args below meth c H locs cells slots lsr Qm cx hS hR hl hd hlo hc hk)
theorem wp_ishr {x y : Int32} (d : decode M.2.1 pc = .ok (.ishr, 1)) (k : px_W G D C S M (pc + 1) ls (.int (x >>> (y &&& 31)) :: st) h Q) : px_W G D C S M pc ls (.int y :: .int x :: st) h Q := by
  intro p l e R s m args below meth c H locs cells slots lsr Qm cx hS hR hl hd hlo hc hk
  exact lv_ishr cx.1 cx.2.1 d (k p l e R s m args below meth c H locs cells slots lsr Qm cx hS hR hl hd hlo hc hk)
theorem wp_iushr {x y : Int32} (d : decode M.2.1 pc = .ok (.iushr, 1)) (k : px_W G D C S M (pc + 1) ls (.int ((x.toUInt32 >>> (y.toUInt32 &&& Int32.toUInt32 31)).toInt32) :: st) h Q) : px_W G D C S M pc ls (.int y :: .int x :: st) h Q := by
  intro p l e R s m args below meth c H locs cells slots lsr Qm cx hS hR hl hd hlo hc hk
  exact lv_iushr cx.1 cx.2.1 d rfl (k p l e R s m args below meth c H locs cells slots lsr Qm cx hS hR hl hd hlo hc hk)
theorem wp_idiv {x y : Int32} (d : decode M.2.1 pc = .ok (.idiv, 1)) (hne : ¬ y = 0) (k : px_W G D C S M (pc + 1) ls (.int (x / y) :: st) h Q) : px_W G D C S M pc ls (.int y :: .int x :: st) h Q := by
  intro p l e R s m args below meth c H locs cells slots lsr Qm cx hS hR hl hd hlo hc hk
  exact lv_idiv cx.1 cx.2.1 d hne (k p l e R s m args below meth c H locs cells slots lsr Qm cx hS hR hl hd hlo hc hk)
theorem wp_irem {x y : Int32} (d : decode M.2.1 pc = .ok (.irem, 1)) (hne : ¬ y = 0) (k : px_W G D C S M (pc + 1) ls (.int (x - x / y * y) :: st) h Q) : px_W G D C S M pc ls (.int y :: .int x :: st) h Q := by
  intro p l e R s m args below meth c H locs cells slots lsr Qm cx hS hR hl hd hlo hc hk
  exact lv_irem cx.1 cx.2.1 d hne (k p l e R s m args below meth c H locs cells slots lsr Qm cx hS hR hl hd hlo hc hk)
theorem wp_ineg {x : Int32} (d : decode M.2.1 pc = .ok (.ineg, 1)) (k : px_W G D C S M (pc + 1) ls (.int (-x) :: st) h Q) : px_W G D C S M pc ls (.int x :: st) h Q := by
  intro p l e R s m args below meth c H locs cells slots lsr Qm cx hS hR hl hd hlo hc hk
  exact lv_ineg cx.1 cx.2.1 d (k p l e R s m args below meth c H locs cells slots lsr Qm cx hS hR hl hd hlo hc hk)
theorem wp_ladd {x y : Int64} (d : decode M.2.1 pc = .ok (.ladd, 1)) (k : px_W G D C S M (pc + 1) ls (.long (x + y) :: st) h Q) : px_W G D C S M pc ls (.long y :: .long x :: st) h Q := by
  intro p l e R s m args below meth c H locs cells slots lsr Qm cx hS hR hl hd hlo hc hk
  exact lv_ladd cx.1 cx.2.1 d (k p l e R s m args below meth c H locs cells slots lsr Qm cx hS hR hl hd hlo hc hk)
theorem wp_lsub {x y : Int64} (d : decode M.2.1 pc = .ok (.lsub, 1)) (k : px_W G D C S M (pc + 1) ls (.long (x - y) :: st) h Q) : px_W G D C S M pc ls (.long y :: .long x :: st) h Q := by
  intro p l e R s m args below meth c H locs cells slots lsr Qm cx hS hR hl hd hlo hc hk
  exact lv_lsub cx.1 cx.2.1 d (k p l e R s m args below meth c H locs cells slots lsr Qm cx hS hR hl hd hlo hc hk)
theorem wp_lmul {x y : Int64} (d : decode M.2.1 pc = .ok (.lmul, 1)) (k : px_W G D C S M (pc + 1) ls (.long (x * y) :: st) h Q) : px_W G D C S M pc ls (.long y :: .long x :: st) h Q := by
  intro p l e R s m args below meth c H locs cells slots lsr Qm cx hS hR hl hd hlo hc hk
  exact lv_lmul cx.1 cx.2.1 d (k p l e R s m args below meth c H locs cells slots lsr Qm cx hS hR hl hd hlo hc hk)
theorem wp_land {x y : Int64} (d : decode M.2.1 pc = .ok (.land, 1)) (k : px_W G D C S M (pc + 1) ls (.long (x &&& y) :: st) h Q) : px_W G D C S M pc ls (.long y :: .long x :: st) h Q := by
  intro p l e R s m args below meth c H locs cells slots lsr Qm cx hS hR hl hd hlo hc hk
  exact lv_land cx.1 cx.2.1 d (k p l e R s m args below meth c H locs cells slots lsr Qm cx hS hR hl hd hlo hc hk)
theorem wp_lor {x y : Int64} (d : decode M.2.1 pc = .ok (.lor, 1)) (k : px_W G D C S M (pc + 1) ls (.long (x ||| y) :: st) h Q) : px_W G D C S M pc ls (.long y :: .long x :: st) h Q := by
  intro p l e R s m args below meth c H locs cells slots lsr Qm cx hS hR hl hd hlo hc hk
  exact lv_lor cx.1 cx.2.1 d (k p l e R s m args below meth c H locs cells slots lsr Qm cx hS hR hl hd hlo hc hk)
theorem wp_lxor {x y : Int64} (d : decode M.2.1 pc = .ok (.lxor, 1)) (k : px_W G D C S M (pc + 1) ls (.long (x ^^^ y) :: st) h Q) : px_W G D C S M pc ls (.long y :: .long x :: st) h Q := by
  intro p l e R s m args below meth c H locs cells slots lsr Qm cx hS hR hl hd hlo hc hk
  exact lv_lxor cx.1 cx.2.1 d (k p l e R s m args below meth c H locs cells slots lsr Qm cx hS hR hl hd hlo hc hk)
theorem wp_ldiv {x y : Int64} (d : decode M.2.1 pc = .ok (.ldiv, 1)) (hne : ¬ y = 0) (k : px_W G D C S M (pc + 1) ls (.long (x / y) :: st) h Q) : px_W G D C S M pc ls (.long y :: .long x :: st) h Q := by
  intro p l e R s m args below meth c H locs cells slots lsr Qm cx hS hR hl hd hlo hc hk
  exact lv_ldiv cx.1 cx.2.1 d hne (k p l e R s m args below meth c H locs cells slots lsr Qm cx hS hR hl hd hlo hc hk)
theorem wp_lrem {x y : Int64} (d : decode M.2.1 pc = .ok (.lrem, 1)) (hne : ¬ y = 0) (k : px_W G D C S M (pc + 1) ls (.long (x - x / y * y) :: st) h Q) : px_W G D C S M pc ls (.long y :: .long x :: st) h Q := by
  intro p l e R s m args below meth c H locs cells slots lsr Qm cx hS hR hl hd hlo hc hk
  exact lv_lrem cx.1 cx.2.1 d hne (k p l e R s m args below meth c H locs cells slots lsr Qm cx hS hR hl hd hlo hc hk)
theorem wp_lcmp {x y : Int64} (d : decode M.2.1 pc = .ok (.lcmp, 1)) (k : px_W G D C S M (pc + 1) ls (.int (lg_cmp x y) :: st) h Q) : px_W G D C S M pc ls (.long y :: .long x :: st) h Q := by
  intro p l e R s m args below meth c H locs cells slots lsr Qm cx hS hR hl hd hlo hc hk
  exact W.lcmp cx.1 cx.2.1 d (k p l e R s m args below meth c H locs cells slots lsr Qm cx hS hR hl hd hlo hc hk)
theorem wp_lshl {x : Int64} {y : Int32} (d : decode M.2.1 pc = .ok (.lshl, 1)) (k : px_W G D C S M (pc + 1) ls (.long (x <<< (y.toInt64 &&& 63)) :: st) h Q) : px_W G D C S M pc ls (.int y :: .long x :: st) h Q := by
  intro p l e R s m args below meth c H locs cells slots lsr Qm cx hS hR hl hd hlo hc hk
  exact lv_lshl cx.1 cx.2.1 d rfl (k p l e R s m args below meth c H locs cells slots lsr Qm cx hS hR hl hd hlo hc hk)
theorem wp_i2l {x : Int32} (d : decode M.2.1 pc = .ok (.i2l, 1)) (k : px_W G D C S M (pc + 1) ls (.long x.toInt64 :: st) h Q) : px_W G D C S M pc ls (.int x :: st) h Q := by
  intro p l e R s m args below meth c H locs cells slots lsr Qm cx hS hR hl hd hlo hc hk
  exact lv_i2l cx.1 cx.2.1 d rfl (k p l e R s m args below meth c H locs cells slots lsr Qm cx hS hR hl hd hlo hc hk)
theorem wp_l2i {x : Int64} (d : decode M.2.1 pc = .ok (.l2i, 1)) (k : px_W G D C S M (pc + 1) ls (.int x.toInt32 :: st) h Q) : px_W G D C S M pc ls (.long x :: st) h Q := by
  intro p l e R s m args below meth c H locs cells slots lsr Qm cx hS hR hl hd hlo hc hk
  exact lv_l2i cx.1 cx.2.1 d rfl (k p l e R s m args below meth c H locs cells slots lsr Qm cx hS hR hl hd hlo hc hk)
theorem wp_i2b {x : Int32} (d : decode M.2.1 pc = .ok (.i2b, 1)) (k : px_W G D C S M (pc + 1) ls (.int x.toInt8.toInt32 :: st) h Q) : px_W G D C S M pc ls (.int x :: st) h Q := by
  intro p l e R s m args below meth c H locs cells slots lsr Qm cx hS hR hl hd hlo hc hk
  exact lv_i2b cx.1 cx.2.1 d rfl (k p l e R s m args below meth c H locs cells slots lsr Qm cx hS hR hl hd hlo hc hk)
theorem wp_i2s {x : Int32} (d : decode M.2.1 pc = .ok (.i2s, 1)) (k : px_W G D C S M (pc + 1) ls (.int x.toInt16.toInt32 :: st) h Q) : px_W G D C S M pc ls (.int x :: st) h Q := by
  intro p l e R s m args below meth c H locs cells slots lsr Qm cx hS hR hl hd hlo hc hk
  exact lv_i2s cx.1 cx.2.1 d rfl (k p l e R s m args below meth c H locs cells slots lsr Qm cx hS hR hl hd hlo hc hk)
theorem wp_i2c {x : Int32} (d : decode M.2.1 pc = .ok (.i2c, 1)) (k : px_W G D C S M (pc + 1) ls (.int (x.toUInt32 % 65536).toInt32 :: st) h Q) : px_W G D C S M pc ls (.int x :: st) h Q := by
  intro p l e R s m args below meth c H locs cells slots lsr Qm cx hS hR hl hd hlo hc hk
  exact lv_i2c cx.1 cx.2.1 d rfl (k p l e R s m args below meth c H locs cells slots lsr Qm cx hS hR hl hd hlo hc hk)
theorem wp_iconst {n : Int} {v : Int32} (d : decode M.2.1 pc = .ok (.iconst n, 1)) (hv : Int32.ofInt n = v) (k : px_W G D C S M (pc + 1) ls (.int v :: st) h Q) : px_W G D C S M pc ls (st) h Q := by
  intro p l e R s m args below meth c H locs cells slots lsr Qm cx hS hR hl hd hlo hc hk
  exact lv_iconst cx.1 cx.2.1 d hv (k p l e R s m args below meth c H locs cells slots lsr Qm cx hS hR hl hd hlo hc hk)
theorem wp_bipush {n : Int} {v : Int32} (d : decode M.2.1 pc = .ok (.bipush n, 2)) (hv : (Int8.ofInt n).toInt32 = v) (k : px_W G D C S M (pc + 2) ls (.int v :: st) h Q) : px_W G D C S M pc ls (st) h Q := by
  intro p l e R s m args below meth c H locs cells slots lsr Qm cx hS hR hl hd hlo hc hk
  exact lv_bipush cx.1 cx.2.1 d hv (k p l e R s m args below meth c H locs cells slots lsr Qm cx hS hR hl hd hlo hc hk)
theorem wp_sipush {n : Int} {v : Int32} (d : decode M.2.1 pc = .ok (.sipush n, 3)) (hv : (Int16.ofInt n).toInt32 = v) (k : px_W G D C S M (pc + 3) ls (.int v :: st) h Q) : px_W G D C S M pc ls (st) h Q := by
  intro p l e R s m args below meth c H locs cells slots lsr Qm cx hS hR hl hd hlo hc hk
  exact lv_sipush cx.1 cx.2.1 d hv (k p l e R s m args below meth c H locs cells slots lsr Qm cx hS hR hl hd hlo hc hk)
theorem wp_lconst {n : Fin 2} {v : Int64} (d : decode M.2.1 pc = .ok (.lconst n, 1)) (hv : Int64.ofNat (n : Nat) = v) (k : px_W G D C S M (pc + 1) ls (.long v :: st) h Q) : px_W G D C S M pc ls (st) h Q := by
  intro p l e R s m args below meth c H locs cells slots lsr Qm cx hS hR hl hd hlo hc hk
  exact lv_lconst cx.1 cx.2.1 d hv (k p l e R s m args below meth c H locs cells slots lsr Qm cx hS hR hl hd hlo hc hk)
theorem wp_null  (d : decode M.2.1 pc = .ok (.aconst_null, 1)) (k : px_W G D C S M (pc + 1) ls (.null :: st) h Q) : px_W G D C S M pc ls (st) h Q := by
  intro p l e R s m args below meth c H locs cells slots lsr Qm cx hS hR hl hd hlo hc hk
  exact lv_null cx.1 cx.2.1 d (k p l e R s m args below meth c H locs cells slots lsr Qm cx hS hR hl hd hlo hc hk)
theorem wp_ldc {i : Nat} {v : Int32} (d : decode M.2.1 pc = .ok (.ldc i, 2)) (w : Cond.constant M.1.cls i v ∈ px_tb) (k : px_W G D C S M (pc + 2) ls (.int v :: st) h Q) : px_W G D C S M pc ls (st) h Q := by
  intro p l e R s m args below meth c H locs cells slots lsr Qm cx hS hR hl hd hlo hc hk
  exact lv_ldc cx.1 cx.2.1 cx.2.2.2.2.2.1 (cx.2.2.2.2.2.2.1 _ w) d (k p l e R s m args below meth c H locs cells slots lsr Qm cx hS hR hl hd hlo hc hk)
theorem wp_ldcw {i : Nat} {v : Int32} (d : decode M.2.1 pc = .ok (.ldc_w i, 3)) (w : Cond.constant M.1.cls i v ∈ px_tb) (k : px_W G D C S M (pc + 3) ls (.int v :: st) h Q) : px_W G D C S M pc ls (st) h Q := by
  intro p l e R s m args below meth c H locs cells slots lsr Qm cx hS hR hl hd hlo hc hk
  exact lv_ldcw cx.1 cx.2.1 cx.2.2.2.2.2.1 (cx.2.2.2.2.2.2.1 _ w) d (k p l e R s m args below meth c H locs cells slots lsr Qm cx hS hR hl hd hlo hc hk)
theorem wp_ldc2 {i : Nat} {v : Int64} (d : decode M.2.1 pc = .ok (.ldc2_w i, 3)) (w : Cond.constantLong M.1.cls i v ∈ px_tb) (k : px_W G D C S M (pc + 3) ls (.long v :: st) h Q) : px_W G D C S M pc ls (st) h Q := by
  intro p l e R s m args below meth c H locs cells slots lsr Qm cx hS hR hl hd hlo hc hk
  exact lv_ldc2 cx.1 cx.2.1 cx.2.2.2.2.2.1 (cx.2.2.2.2.2.2.1 _ w) d (k p l e R s m args below meth c H locs cells slots lsr Qm cx hS hR hl hd hlo hc hk)
theorem wp_dup {v : Value} (d : decode M.2.1 pc = .ok (.dup, 1)) (hv : v.category = 1) (k : px_W G D C S M (pc + 1) ls (v :: v :: st) h Q) : px_W G D C S M pc ls (v :: st) h Q := by
  intro p l e R s m args below meth c H locs cells slots lsr Qm cx hS hR hl hd hlo hc hk
  exact lv_dup cx.1 cx.2.1 d (by rw [px_cat]; exact hv) (k p l e R s m args below meth c H locs cells slots lsr Qm cx hS hR hl hd hlo hc hk)
theorem wp_pop {v : Value} (d : decode M.2.1 pc = .ok (.pop, 1)) (hv : v.category = 1) (k : px_W G D C S M (pc + 1) ls (st) h Q) : px_W G D C S M pc ls (v :: st) h Q := by
  intro p l e R s m args below meth c H locs cells slots lsr Qm cx hS hR hl hd hlo hc hk
  exact lv_pop cx.1 cx.2.1 d (by rw [px_cat]; exact hv) (k p l e R s m args below meth c H locs cells slots lsr Qm cx hS hR hl hd hlo hc hk)
theorem wp_dup2 {v w : Value} (d : decode M.2.1 pc = .ok (.dup2, 1)) (hv : v.category = 1) (hw : w.category = 1) (k : px_W G D C S M (pc + 1) ls (v :: w :: v :: w :: st) h Q) : px_W G D C S M pc ls (v :: w :: st) h Q := by
  intro p l e R s m args below meth c H locs cells slots lsr Qm cx hS hR hl hd hlo hc hk
  exact lv_dup2_11 cx.1 cx.2.1 d (by rw [px_cat]; exact hv) (by rw [px_cat]; exact hw) (k p l e R s m args below meth c H locs cells slots lsr Qm cx hS hR hl hd hlo hc hk)
theorem wp_dup_x1 {v w : Value} (d : decode M.2.1 pc = .ok (.dup_x1, 1)) (hv : v.category = 1) (hw : w.category = 1) (k : px_W G D C S M (pc + 1) ls (v :: w :: v :: st) h Q) : px_W G D C S M pc ls (v :: w :: st) h Q := by
  intro p l e R s m args below meth c H locs cells slots lsr Qm cx hS hR hl hd hlo hc hk
  exact lv_dup_x1 cx.1 cx.2.1 d (by rw [px_cat]; exact hv) (by rw [px_cat]; exact hw) (k p l e R s m args below meth c H locs cells slots lsr Qm cx hS hR hl hd hlo hc hk)
theorem wp_iload_n {n : Fin 4} {i : Nat} {x : Int32} (d : decode M.2.1 pc = .ok (.iload_n n, 1)) (hi : (n : Nat) = i) (hx : ls[i]? = some (some (.int x))) (k : px_W G D C S M (pc + 1) ls (.int x :: st) h Q) : px_W G D C S M pc ls (st) h Q := by
  intro p l e R s m args below meth c H locs cells slots lsr Qm cx hS hR hl hd hlo hc hk
  exact lv_iload_n cx.1 cx.2.1 d hi (hl.2.2 _ _ hx) (k p l e R s m args below meth c H locs cells slots lsr Qm cx hS hR hl hd hlo hc hk)
theorem wp_lload_n {n : Fin 4} {i : Nat} {x : Int64} (d : decode M.2.1 pc = .ok (.lload_n n, 1)) (hi : (n : Nat) = i) (hx : ls[i]? = some (some (.long x))) (k : px_W G D C S M (pc + 1) ls (.long x :: st) h Q) : px_W G D C S M pc ls (st) h Q := by
  intro p l e R s m args below meth c H locs cells slots lsr Qm cx hS hR hl hd hlo hc hk
  exact lv_lload_n cx.1 cx.2.1 d hi (hl.2.2 _ _ hx) (k p l e R s m args below meth c H locs cells slots lsr Qm cx hS hR hl hd hlo hc hk)
theorem wp_iload {i : Nat} {x : Int32} (d : decode M.2.1 pc = .ok (.iload i, 2)) (hx : ls[i]? = some (some (.int x))) (k : px_W G D C S M (pc + 2) ls (.int x :: st) h Q) : px_W G D C S M pc ls (st) h Q := by
  intro p l e R s m args below meth c H locs cells slots lsr Qm cx hS hR hl hd hlo hc hk
  exact lv_iload cx.1 cx.2.1 d (hl.2.2 _ _ hx) (k p l e R s m args below meth c H locs cells slots lsr Qm cx hS hR hl hd hlo hc hk)
theorem wp_lload {i : Nat} {x : Int64} (d : decode M.2.1 pc = .ok (.lload i, 2)) (hx : ls[i]? = some (some (.long x))) (k : px_W G D C S M (pc + 2) ls (.long x :: st) h Q) : px_W G D C S M pc ls (st) h Q := by
  intro p l e R s m args below meth c H locs cells slots lsr Qm cx hS hR hl hd hlo hc hk
  exact lv_lload cx.1 cx.2.1 d (hl.2.2 _ _ hx) (k p l e R s m args below meth c H locs cells slots lsr Qm cx hS hR hl hd hlo hc hk)
def px_isr : Value → Bool
  | .ref _ => true
  | .null => true
  | .retAddr _ => true
  | _ => false
theorem px_isr_of {v : Value} (hv : px_isr v = true) (G : px_G) : px_v G v = .null ∨ ∃ a, px_v G v = .ref a := by
  cases v with
  | ref k => exact Or.inr ⟨_, rfl⟩
  | null => exact Or.inl rfl
  | retAddr j =>
    show va_rf (G.2.2.2.1 j) = .null ∨ ∃ a, va_rf (G.2.2.2.1 j) = .ref a
    cases G.2.2.2.1 j with
    | none => exact Or.inl rfl
    | some a => exact Or.inr ⟨a, rfl⟩
  | _ => cases hv
theorem wp_aload_n {n : Fin 4} {i : Nat} {v : Value} (d : decode M.2.1 pc = .ok (.aload_n n, 1)) (hi : (n : Nat) = i) (hx : ls[i]? = some (some v)) (hv : px_isr v = true) (k : px_W G D C S M (pc + 1) ls (v :: st) h Q) : px_W G D C S M pc ls st h Q := by
  intro p l e R s m args below meth c H locs cells slots lsr Qm cx hS hR hl hd hlo hc hk
  have a1 := hl.2.2 _ _ hx
  have k1 := (k p l e R s m args below meth c H locs cells slots lsr Qm cx hS hR hl hd hlo hc hk)
  rw [List.map_cons] at k1
  rcases px_isr_of hv G with q | ⟨a, q⟩
  · rw [q] at a1 k1
    exact lv_aload_nN cx.1 cx.2.1 d hi a1 k1
  · rw [q] at a1 k1
    exact lv_aload_n cx.1 cx.2.1 d hi a1 k1
theorem wp_aload {i : Nat} {v : Value} (d : decode M.2.1 pc = .ok (.aload i, 2)) (hx : ls[i]? = some (some v)) (hv : px_isr v = true) (k : px_W G D C S M (pc + 2) ls (v :: st) h Q) : px_W G D C S M pc ls st h Q := by
  intro p l e R s m args below meth c H locs cells slots lsr Qm cx hS hR hl hd hlo hc hk
  have a1 := hl.2.2 _ _ hx
  have k1 := (k p l e R s m args below meth c H locs cells slots lsr Qm cx hS hR hl hd hlo hc hk)
  rw [List.map_cons] at k1
  rcases px_isr_of hv G with q | ⟨a, q⟩
  · rw [q] at a1 k1
    exact lv_aloadN cx.1 cx.2.1 d a1 k1
  · rw [q] at a1 k1
    exact lv_aload cx.1 cx.2.1 d a1 k1
theorem wp_istore_n {n : Fin 4} {i : Nat} {x : Int32} {ls' : px_L} (d : decode M.2.1 pc = .ok (.istore_n n, 1)) (hi : (n : Nat) = i) (hn : i < M.2.2.1) (hs : px_st1 ls i (.int x) = ls') (k : px_W G D C S M (pc + 1) ls' st h Q) : px_W G D C S M pc ls (.int x :: st) h Q := by
  intro p l e R s m args below meth c H locs cells slots lsr Qm cx hS hR hl hd hlo hc hk
  subst hs
  exact lv_istore_n cx.1 cx.2.1 d hi hl.has hn rfl (fun ls1 h1 => k p l e R s m args below meth c H locs cells slots ls1 Qm cx hS hR (px_lr.st1 (v := .int x) h1) hd hlo hc hk)
theorem wp_istore {i : Nat} {x : Int32} {ls' : px_L} (d : decode M.2.1 pc = .ok (.istore i, 2)) (hn : i < M.2.2.1) (hs : px_st1 ls i (.int x) = ls') (k : px_W G D C S M (pc + 2) ls' st h Q) : px_W G D C S M pc ls (.int x :: st) h Q := by
  intro p l e R s m args below meth c H locs cells slots lsr Qm cx hS hR hl hd hlo hc hk
  subst hs
  exact lv_istore cx.1 cx.2.1 d hl.has hn rfl (fun ls1 h1 => k p l e R s m args below meth c H locs cells slots ls1 Qm cx hS hR (px_lr.st1 (v := .int x) h1) hd hlo hc hk)
theorem wp_lstore_n {n : Fin 4} {i : Nat} {x : Int64} {ls' : px_L} (d : decode M.2.1 pc = .ok (.lstore_n n, 1)) (hi : (n : Nat) = i) (hn : i + 1 < M.2.2.1) (hs : px_st2 ls i (.long x) = ls') (k : px_W G D C S M (pc + 1) ls' st h Q) : px_W G D C S M pc ls (.long x :: st) h Q := by
  intro p l e R s m args below meth c H locs cells slots lsr Qm cx hS hR hl hd hlo hc hk
  subst hs
  exact lv_lstore_n cx.1 cx.2.1 d hi hl.has hn rfl (fun ls1 h1 => k p l e R s m args below meth c H locs cells slots ls1 Qm cx hS hR (px_lr.st2 (v := .long x) h1) hd hlo hc hk)
theorem wp_lstore {i : Nat} {x : Int64} {ls' : px_L} (d : decode M.2.1 pc = .ok (.lstore i, 2)) (hn : i + 1 < M.2.2.1) (hs : px_st2 ls i (.long x) = ls') (k : px_W G D C S M (pc + 2) ls' st h Q) : px_W G D C S M pc ls (.long x :: st) h Q := by
  intro p l e R s m args below meth c H locs cells slots lsr Qm cx hS hR hl hd hlo hc hk
  subst hs
  exact lv_lstore cx.1 cx.2.1 d hl.has hn rfl (fun ls1 h1 => k p l e R s m args below meth c H locs cells slots ls1 Qm cx hS hR (px_lr.st2 (v := .long x) h1) hd hlo hc hk)
theorem wp_astore_n {n : Fin 4} {i : Nat} {v : Value} {ls' : px_L} (d : decode M.2.1 pc = .ok (.astore_n n, 1)) (hi : (n : Nat) = i) (hn : i < M.2.2.1) (hv : px_isr v = true) (hs : px_st1 ls i v = ls') (k : px_W G D C S M (pc + 1) ls' st h Q) : px_W G D C S M pc ls (v :: st) h Q := by
  intro p l e R s m args below meth c H locs cells slots lsr Qm cx hS hR hl hd hlo hc hk
  subst hs
  rw [List.map_cons]
  rcases px_isr_of hv G with q | ⟨a, q⟩
  · rw [q]
    exact lv_astore_nN cx.1 cx.2.1 d hi hl.has hn rfl (fun ls1 h1 => k p l e R s m args below meth c H locs cells slots ls1 Qm cx hS hR (px_lr.st1 (v := v) (by rw [q]; exact h1)) hd hlo hc hk)
  · rw [q]
    exact lv_astore_n cx.1 cx.2.1 d hi hl.has hn rfl (fun ls1 h1 => k p l e R s m args below meth c H locs cells slots ls1 Qm cx hS hR (px_lr.st1 (v := v) (by rw [q]; exact h1)) hd hlo hc hk)
theorem wp_astore {i : Nat} {v : Value} {ls' : px_L} (d : decode M.2.1 pc = .ok (.astore i, 2)) (hn : i < M.2.2.1) (hv : px_isr v = true) (hs : px_st1 ls i v = ls') (k : px_W G D C S M (pc + 2) ls' st h Q) : px_W G D C S M pc ls (v :: st) h Q := by
  intro p l e R s m args below meth c H locs cells slots lsr Qm cx hS hR hl hd hlo hc hk
  subst hs
  rw [List.map_cons]
  rcases px_isr_of hv G with q | ⟨a, q⟩
  · rw [q]
    exact lv_astoreN cx.1 cx.2.1 d hl.has hn rfl (fun ls1 h1 => k p l e R s m args below meth c H locs cells slots ls1 Qm cx hS hR (px_lr.st1 (v := v) (by rw [q]; exact h1)) hd hlo hc hk)
  · rw [q]
    exact lv_astore cx.1 cx.2.1 d hl.has hn rfl (fun ls1 h1 => k p l e R s m args below meth c H locs cells slots ls1 Qm cx hS hR (px_lr.st1 (v := v) (by rw [q]; exact h1)) hd hlo hc hk)
theorem px_ll_at {G : px_G} {ls : px_L} {i : Nat} {v : Value} (h : ls[i]? = some (some v)) : ∃ j : Nat, (px_ll G ls)[j]? = some (i, px_v G v) := List.getElem?_of_mem (px_ll_in h)
theorem wp_iinc {i : Nat} {n : Int} {x v : Int32} {ls' : px_L} (d : decode M.2.1 pc = .ok (.iinc i n, 3)) (hn : i < M.2.2.1) (hx : ls[i]? = some (some (.int x))) (hv : x + Int32.ofInt n = v) (hs : px_st1 ls i (.int v) = ls') (k : px_W G D C S M (pc + 3) ls' st h Q) : px_W G D C S M pc ls st h Q := by
  intro p l e R s m args below meth c H locs cells slots lsr Qm cx hS hR hl hd hlo hc hk
  subst hs
  obtain ⟨j, hj⟩ := px_ll_at (G := G) hx
  exact lv_iinc cx.1 cx.2.1 d hl.has hj hv hn rfl (fun ls1 h1 => k p l e R s m args below meth c H locs cells slots ls1 Qm cx hS hR (px_lr.st1 (v := .int v) h1) hd hlo hc hk)
/-- less is told of the locals -/
theorem wp_less {ls' : px_L} (hs : px_leb ls' ls) (k : px_W G D C S M pc ls' st h Q) : px_W G D C S M pc ls st h Q := by
  intro p l e R s m args below meth c H locs cells slots lsr Qm cx hS hR hl hd hlo hc hk
  exact k p l e R s m args below meth c H locs cells slots lsr Qm cx hS hR (hl.less (px_leb_at _ _ hs)) hd hlo hc hk
theorem wp_goto {off : Int} {t : Nat} (d : decode M.2.1 pc = .ok (.goto off, 3)) (ht : (pc : Int) + off = (t : Int)) (k : px_W G D C S M t ls st h Q) : px_W G D C S M pc ls st h Q := by
  intro p l e R s m args below meth c H locs cells slots lsr Qm cx hS hR hl hd hlo hc hk
  exact lv_goto cx.1 cx.2.1 d ht (k p l e R s m args below meth c H locs cells slots lsr Qm cx hS hR hl hd hlo hc hk)
theorem wp_icmp_eq {x y : Int32} {off : Int} {t : Nat} (d : decode M.2.1 pc = .ok (.if_icmp .eq off, 3)) (ht : (pc : Int) + off = (t : Int)) (kt : x = y → px_W G D C S M t ls st h Q) (kf : ¬ x = y → px_W G D C S M (pc + 3) ls st h Q) : px_W G D C S M pc ls (.int y :: .int x :: st) h Q := by
  intro p l e R s m args below meth c H locs cells slots lsr Qm cx hS hR hl hd hlo hc hk
  exact lv_icmp_eq cx.1 cx.2.1 d ht (fun q => kt q p l e R s m args below meth c H locs cells slots lsr Qm cx hS hR hl hd hlo hc hk) (fun q => kf q p l e R s m args below meth c H locs cells slots lsr Qm cx hS hR hl hd hlo hc hk)
theorem wp_icmp_ne {x y : Int32} {off : Int} {t : Nat} (d : decode M.2.1 pc = .ok (.if_icmp .ne off, 3)) (ht : (pc : Int) + off = (t : Int)) (kt : ¬ x = y → px_W G D C S M t ls st h Q) (kf : x = y → px_W G D C S M (pc + 3) ls st h Q) : px_W G D C S M pc ls (.int y :: .int x :: st) h Q := by
  intro p l e R s m args below meth c H locs cells slots lsr Qm cx hS hR hl hd hlo hc hk
  exact lv_icmp_ne cx.1 cx.2.1 d ht (fun q => kt q p l e R s m args below meth c H locs cells slots lsr Qm cx hS hR hl hd hlo hc hk) (fun q => kf q p l e R s m args below meth c H locs cells slots lsr Qm cx hS hR hl hd hlo hc hk)
theorem wp_icmp_lt {x y : Int32} {off : Int} {t : Nat} (d : decode M.2.1 pc = .ok (.if_icmp .lt off, 3)) (ht : (pc : Int) + off = (t : Int)) (kt : x < y → px_W G D C S M t ls st h Q) (kf : ¬ x < y → px_W G D C S M (pc + 3) ls st h Q) : px_W G D C S M pc ls (.int y :: .int x :: st) h Q := by
  intro p l e R s m args below meth c H locs cells slots lsr Qm cx hS hR hl hd hlo hc hk
  exact lv_icmp_lt cx.1 cx.2.1 d ht (fun q => kt q p l e R s m args below meth c H locs cells slots lsr Qm cx hS hR hl hd hlo hc hk) (fun q => kf q p l e R s m args below meth c H locs cells slots lsr Qm cx hS hR hl hd hlo hc hk)
theorem wp_icmp_ge {x y : Int32} {off : Int} {t : Nat} (d : decode M.2.1 pc = .ok (.if_icmp .ge off, 3)) (ht : (pc : Int) + off = (t : Int)) (kt : y ≤ x → px_W G D C S M t ls st h Q) (kf : ¬ y ≤ x → px_W G D C S M (pc + 3) ls st h Q) : px_W G D C S M pc ls (.int y :: .int x :: st) h Q := by
  intro p l e R s m args below meth c H locs cells slots lsr Qm cx hS hR hl hd hlo hc hk
  exact lv_icmp_ge cx.1 cx.2.1 d ht (fun q => kt q p l e R s m args below meth c H locs cells slots lsr Qm cx hS hR hl hd hlo hc hk) (fun q => kf q p l e R s m args below meth c H locs cells slots lsr Qm cx hS hR hl hd hlo hc hk)
theorem wp_icmp_gt {x y : Int32} {off : Int} {t : Nat} (d : decode M.2.1 pc = .ok (.if_icmp .gt off, 3)) (ht : (pc : Int) + off = (t : Int)) (kt : y < x → px_W G D C S M t ls st h Q) (kf : ¬ y < x → px_W G D C S M (pc + 3) ls st h Q) : px_W G D C S M pc ls (.int y :: .int x :: st) h Q := by
  intro p l e R s m args below meth c H locs cells slots lsr Qm cx hS hR hl hd hlo hc hk
  exact lv_icmp_gt cx.1 cx.2.1 d ht (fun q => kt q p l e R s m args below meth c H locs cells slots lsr Qm cx hS hR hl hd hlo hc hk) (fun q => kf q p l e R s m args below meth c H locs cells slots lsr Qm cx hS hR hl hd hlo hc hk)
theorem wp_icmp_le {x y : Int32} {off : Int} {t : Nat} (d : decode M.2.1 pc = .ok (.if_icmp .le off, 3)) (ht : (pc : Int) + off = (t : Int)) (kt : x ≤ y → px_W G D C S M t ls st h Q) (kf : ¬ x ≤ y → px_W G D C S M (pc + 3) ls st h Q) : px_W G D C S M pc ls (.int y :: .int x :: st) h Q := by
  intro p l e R s m args below meth c H locs cells slots lsr Qm cx hS hR hl hd hlo hc hk
  exact lv_icmp_le cx.1 cx.2.1 d ht (fun q => kt q p l e R s m args below meth c H locs cells slots lsr Qm cx hS hR hl hd hlo hc hk) (fun q => kf q p l e R s m args below meth c H locs cells slots lsr Qm cx hS hR hl hd hlo hc hk)
theorem wp_if_eq {x : Int32} {off : Int} {t : Nat} (d : decode M.2.1 pc = .ok (.ifCond .eq off, 3)) (ht : (pc : Int) + off = (t : Int)) (kt : x = 0 → px_W G D C S M t ls st h Q) (kf : ¬ x = 0 → px_W G D C S M (pc + 3) ls st h Q) : px_W G D C S M pc ls (.int x :: st) h Q := by
  intro p l e R s m args below meth c H locs cells slots lsr Qm cx hS hR hl hd hlo hc hk
  exact lv_if_eq cx.1 cx.2.1 d ht (fun q => kt q p l e R s m args below meth c H locs cells slots lsr Qm cx hS hR hl hd hlo hc hk) (fun q => kf q p l e R s m args below meth c H locs cells slots lsr Qm cx hS hR hl hd hlo hc hk)
theorem wp_if_ne {x : Int32} {off : Int} {t : Nat} (d : decode M.2.1 pc = .ok (.ifCond .ne off, 3)) (ht : (pc : Int) + off = (t : Int)) (kt : ¬ x = 0 → px_W G D C S M t ls st h Q) (kf : x = 0 → px_W G D C S M (pc + 3) ls st h Q) : px_W G D C S M pc ls (.int x :: st) h Q := by
  intro p l e R s m args below meth c H locs cells slots lsr Qm cx hS hR hl hd hlo hc hk
  exact lv_if_ne cx.1 cx.2.1 d ht (fun q => kt q p l e R s m args below meth c H locs cells slots lsr Qm cx hS hR hl hd hlo hc hk) (fun q => kf q p l e R s m args below meth c H locs cells slots lsr Qm cx hS hR hl hd hlo hc hk)
theorem wp_if_lt {x : Int32} {off : Int} {t : Nat} (d : decode M.2.1 pc = .ok (.ifCond .lt off, 3)) (ht : (pc : Int) + off = (t : Int)) (kt : x < 0 → px_W G D C S M t ls st h Q) (kf : ¬ x < 0 → px_W G D C S M (pc + 3) ls st h Q) : px_W G D C S M pc ls (.int x :: st) h Q := by
  intro p l e R s m args below meth c H locs cells slots lsr Qm cx hS hR hl hd hlo hc hk
  exact lv_if_lt cx.1 cx.2.1 d ht (fun q => kt q p l e R s m args below meth c H locs cells slots lsr Qm cx hS hR hl hd hlo hc hk) (fun q => kf q p l e R s m args below meth c H locs cells slots lsr Qm cx hS hR hl hd hlo hc hk)
theorem wp_if_ge {x : Int32} {off : Int} {t : Nat} (d : decode M.2.1 pc = .ok (.ifCond .ge off, 3)) (ht : (pc : Int) + off = (t : Int)) (kt : 0 ≤ x → px_W G D C S M t ls st h Q) (kf : ¬ 0 ≤ x → px_W G D C S M (pc + 3) ls st h Q) : px_W G D C S M pc ls (.int x :: st) h Q := by
  intro p l e R s m args below meth c H locs cells slots lsr Qm cx hS hR hl hd hlo hc hk
  exact lv_if_ge cx.1 cx.2.1 d ht (fun q => kt q p l e R s m args below meth c H locs cells slots lsr Qm cx hS hR hl hd hlo hc hk) (fun q => kf q p l e R s m args below meth c H locs cells slots lsr Qm cx hS hR hl hd hlo hc hk)
theorem wp_if_gt {x : Int32} {off : Int} {t : Nat} (d : decode M.2.1 pc = .ok (.ifCond .gt off, 3)) (ht : (pc : Int) + off = (t : Int)) (kt : 0 < x → px_W G D C S M t ls st h Q) (kf : ¬ 0 < x → px_W G D C S M (pc + 3) ls st h Q) : px_W G D C S M pc ls (.int x :: st) h Q := by
  intro p l e R s m args below meth c H locs cells slots lsr Qm cx hS hR hl hd hlo hc hk
  exact lv_if_gt cx.1 cx.2.1 d ht (fun q => kt q p l e R s m args below meth c H locs cells slots lsr Qm cx hS hR hl hd hlo hc hk) (fun q => kf q p l e R s m args below meth c H locs cells slots lsr Qm cx hS hR hl hd hlo hc hk)
theorem wp_if_le {x : Int32} {off : Int} {t : Nat} (d : decode M.2.1 pc = .ok (.ifCond .le off, 3)) (ht : (pc : Int) + off = (t : Int)) (kt : x ≤ 0 → px_W G D C S M t ls st h Q) (kf : ¬ x ≤ 0 → px_W G D C S M (pc + 3) ls st h Q) : px_W G D C S M pc ls (.int x :: st) h Q := by
  intro p l e R s m args below meth c H locs cells slots lsr Qm cx hS hR hl hd hlo hc hk
  exact lv_if_le cx.1 cx.2.1 d ht (fun q => kt q p l e R s m args below meth c H locs cells slots lsr Qm cx hS hR hl hd hlo hc hk) (fun q => kf q p l e R s m args below meth c H locs cells slots lsr Qm cx hS hR hl hd hlo hc hk)
theorem wp_ifnonnull {x : Nat} {off : Int} {t : Nat} (d : decode M.2.1 pc = .ok (.ifnonnull off, 3)) (ht : (pc : Int) + off = (t : Int)) (k : px_W G D C S M t ls st h Q) : px_W G D C S M pc ls (.ref x :: st) h Q := by
  intro p l e R s m args below meth c H locs cells slots lsr Qm cx hS hR hl hd hlo hc hk
  exact lv_ifnonnull cx.1 cx.2.1 d ht (k p l e R s m args below meth c H locs cells slots lsr Qm cx hS hR hl hd hlo hc hk)
theorem wp_ifnonnullN {off : Int} (d : decode M.2.1 pc = .ok (.ifnonnull off, 3)) (k : px_W G D C S M (pc + 3) ls st h Q) : px_W G D C S M pc ls (.null :: st) h Q := by
  intro p l e R s m args below meth c H locs cells slots lsr Qm cx hS hR hl hd hlo hc hk
  exact lv_ifnonnullN cx.1 cx.2.1 d (k p l e R s m args below meth c H locs cells slots lsr Qm cx hS hR hl hd hlo hc hk)
theorem wp_tableIn {df lo hi : Int} {offs : Array Int} {len : Nat} {x : Int32} {off : Int} {t : Nat} (d : decode M.2.1 pc = .ok (.tableswitch df lo hi offs, len)) (h1 : ¬ x.toInt < lo) (h2 : ¬ hi < x.toInt) (ho : offs[(x.toInt - lo).toNat]? = some off) (ht : (pc : Int) + off = (t : Int)) (k : px_W G D C S M t ls st h Q) : px_W G D C S M pc ls (.int x :: st) h Q := by
  intro p l e R s m args below meth c H locs cells slots lsr Qm cx hS hR hl hd hlo hc hk
  exact lv_tableIn cx.1 cx.2.1 d h1 h2 ho ht (k p l e R s m args below meth c H locs cells slots lsr Qm cx hS hR hl hd hlo hc hk)
theorem wp_tableOut {df lo hi : Int} {offs : Array Int} {len : Nat} {x : Int32} {t : Nat} (d : decode M.2.1 pc = .ok (.tableswitch df lo hi offs, len)) (h1 : x.toInt < lo ∨ hi < x.toInt) (ht : (pc : Int) + df = (t : Int)) (k : px_W G D C S M t ls st h Q) : px_W G D C S M pc ls (.int x :: st) h Q := by
  intro p l e R s m args below meth c H locs cells slots lsr Qm cx hS hR hl hd hlo hc hk
  exact lv_tableOut cx.1 cx.2.1 d h1 ht (k p l e R s m args below meth c H locs cells slots lsr Qm cx hS hR hl hd hlo hc hk)
theorem wp_lookup {df : Int} {ps : Array (Int × Int)} {len : Nat} {x : Int32} {off : Int} {t : Nat} (d : decode M.2.1 pc = .ok (.lookupswitch df ps, len)) (hp : (ps.toList.zip (ps.toList.drop 1)).all (fun (a, next) => a.1 < next.1) = true) (ho : Op.lookupswitch.offset ps.toList df x.toInt = off) (ht : (pc : Int) + off = (t : Int)) (k : px_W G D C S M t ls st h Q) : px_W G D C S M pc ls (.int x :: st) h Q := by
  intro p l e R s m args below meth c H locs cells slots lsr Qm cx hS hR hl hd hlo hc hk
  exact lv_lookup cx.1 cx.2.1 d hp ho ht (k p l e R s m args below meth c H locs cells slots lsr Qm cx hS hR hl hd hlo hc hk)
/-! the end of a method -/
theorem wp_return (d : decode M.2.1 pc = .ok (.return_, 1)) (hr : M.2.2.2 = none) (q : Q none h) : px_W G D C S M pc ls [] h Q := by
  intro p l e R s m args below meth c H locs cells slots lsr Qm cx hS hR hl hd hlo hc hk
  exact W.widen (Nat.le_add_right _ _) (Nat.le_add_right _ _) (hk pc lsr H locs none h q (Or.inl ⟨rfl, hr, d⟩) hR hS)
theorem wp_ireturn {x : Int32} {ty : FieldType} (d : decode M.2.1 pc = .ok (.ireturn, 1)) (hr : M.2.2.2 = some ty) (hn : narrow ty (.int x) = .int x) (q : Q (some (.int x)) h) : px_W G D C S M pc ls [.int x] h Q := by
  intro p l e R s m args below meth c H locs cells slots lsr Qm cx hS hR hl hd hlo hc hk
  exact W.widen (Nat.le_add_right _ _) (Nat.le_add_right _ _) (hk pc lsr H locs (some (.int x)) h q (Or.inr (Or.inl ⟨x, ty, rfl, hr, hn, d⟩)) hR hS)
theorem wp_lreturn {x : Int64} (d : decode M.2.1 pc = .ok (.lreturn, 1)) (hr : M.2.2.2 = some .long) (q : Q (some (.long x)) h) : px_W G D C S M pc ls [.long x] h Q := by
  intro p l e R s m args below meth c H locs cells slots lsr Qm cx hS hR hl hd hlo hc hk
  exact W.widen (Nat.le_add_right _ _) (Nat.le_add_right _ _) (hk pc lsr H locs (some (.long x)) h q (Or.inr (Or.inr (Or.inl ⟨x, rfl, hr, d⟩))) hR hS)
theorem wp_areturn {x : Nat} {ty : FieldType} (d : decode M.2.1 pc = .ok (.areturn, 1)) (hr : M.2.2.2 = some ty) (ht : (∃ n, ty = .object n) ∨ ∃ t, ty = .array t) (q : Q (some (.ref x)) h) : px_W G D C S M pc ls [.ref x] h Q := by
  intro p l e R s m args below meth c H locs cells slots lsr Qm cx hS hR hl hd hlo hc hk
  exact W.widen (Nat.le_add_right _ _) (Nat.le_add_right _ _) (hk pc lsr H locs (some (.ref x)) h q (Or.inr (Or.inr (Or.inr ⟨x, ty, rfl, hr, ht, d⟩))) hR hS)
/-! more room, a weaker end -/
theorem wp_room {C' S' : Nat} (hC : C' ≤ C) (hS' : S' ≤ S) (k : px_W G D C' S' M pc ls st h Q) : px_W G D C S M pc ls st h Q := by
  intro p l e R s m args below meth c H locs cells slots lsr Qm cx hS hR hl hd hlo hc hk
  refine k p l e R s m args below meth c H locs cells slots lsr Qm cx hS hR hl hd (by omega) (by omega) fun pc' lsr' H' locs' rv h' a1 a2 a3 a4 => ?_
  exact W.widen (by omega) (by omega) (hk pc' lsr' H' locs' rv h' a1 a2 a3 a4)
theorem wp_depth {D' : Nat} (hD : D' ≤ D) (k : px_W G D' C S M pc ls st h Q) : px_W G D C S M pc ls st h Q := by
  intro p l e R s m args below meth c H locs cells slots lsr Qm cx hS hR hl hd hlo hc hk
  exact k p l e R s m args below meth c H locs cells slots lsr Qm cx hS hR hl ⟨by omega, by omega⟩ hlo hc hk
theorem wp_mono {Q' : Option Value → px_H → Prop} (hq : ∀ rv h', Q' rv h' → Q rv h') (k : px_W G D C S M pc ls st h Q') : px_W G D C S M pc ls st h Q := by
  intro p l e R s m args below meth c H locs cells slots lsr Qm cx hS hR hl hd hlo hc hk
  exact k p l e R s m args below meth c H locs cells slots lsr Qm cx hS hR hl hd hlo hc fun pc' lsr' H' locs' rv h' a1 a2 a3 a4 => hk pc' lsr' H' locs' rv h' (hq _ _ a1) a2 a3 a4
end PXW
