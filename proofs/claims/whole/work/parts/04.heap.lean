/-- a field as an instruction names it: class own, place idx of its pool; an object of class ci has it at place k; its type; final or not -/
def px_GF (own : String) (idx ci k : Nat) (ty : FieldType) (fin : Bool) : Prop := ∃ (r : vw_C) (ref : String), px_cls[ci]? = some r ∧ k < r.2.2 ∧ Cond.fieldLink own idx ref (r.2.1 k).2.1 (r.2.1 k).2.2.1 ∈ px_tb ∧ (ref = (r.2.1 k).1 ∨ Cond.sameField ref (r.2.1 k).1 (r.2.1 k).2.1 (r.2.1 k).2.2.1 ∈ px_tb) ∧ parseFieldDescriptor (r.2.1 k).2.2.1 = some ty ∧ (r.2.1 k).2.2.2 = fin ∧ (fin = true → (r.2.1 k).1 = own)
/-- the same, to read it -/
def px_GR (own : String) (idx ci k : Nat) : Prop := ∃ (r : vw_C) (ref : String), px_cls[ci]? = some r ∧ k < r.2.2 ∧ Cond.fieldLink own idx ref (r.2.1 k).2.1 (r.2.1 k).2.2.1 ∈ px_tb ∧ (ref = (r.2.1 k).1 ∨ Cond.sameField ref (r.2.1 k).1 (r.2.1 k).2.1 (r.2.1 k).2.2.1 ∈ px_tb)
theorem px_same {s : State} {args : Array Value} {ref o n d : String} (ht : ∀ w ∈ px_tb, w.before args s = true) (h : ref = o ∨ Cond.sameField ref o n d ∈ px_tb) : ∀ x, s.fieldFound? o n d = some x → s.fieldFound? ref n d = some x := by
  rcases h with rfl | h
  · exact fun x hx => hx
  · exact u_same (ht _ h)
section PXH
variable {G : px_G} {D C S : Nat} {M : px_M} {pc : Nat} {ls : px_L} {st : List Value} {h h' : px_H} {Q : Option Value → px_H → Prop}
theorem px_cls_cd {w : Value} {fs : List Value} {k : Nat} {G : px_G} (hv : fs[k]? = some w) : (fs.map (px_v G))[k]? = some (px_v G w) := by simp [hv]
theorem wp_getf {idx ci k p0 : Nat} {fs : List Value} {v : Value} (d : decode M.2.1 pc = .ok (.getfield idx, 3)) (gf : px_GR M.1.cls idx ci k) (he : h[p0]? = some (.inr (ci, fs))) (hv : fs[k]? = some v) (k : px_W G D C S M (pc + 3) ls (v :: st) h Q) : px_W G D C S M pc ls (.ref p0 :: st) h Q := by
  intro p l e R s m args below meth c H locs cells slots lsr Qm cx hS hR hl hd hlo hc hk
  obtain ⟨r, ref, g1, g2, g3, g4⟩ := gf
  exact va_get cx.1 cx.2.1 cx.2.2.2.2.2.2.1 (px_cls_tb ci r g1).1 cx.2.2.2.2.2.1 cx.2.2.2.2.2.2.2.2.1 hR.2 p0 (px_ws_get he) g1 _ g2 (cx.2.2.2.2.2.2.1 _ g3) (px_same cx.2.2.2.2.2.2.1 g4) (px_cls_cd hv) d (k p l e R s m args below meth c H locs cells slots lsr Qm cx hS hR hl hd hlo hc hk)
theorem wp_putf {idx ci k0 p0 : Nat} {ty : FieldType} {fs : List Value} {v : Value} (d : decode M.2.1 pc = .ok (.putfield idx, 3)) (gf : px_GF M.1.cls idx ci k0 ty false) (he : h[p0]? = some (.inr (ci, fs))) (hl0 : k0 < fs.length) (hn : narrow ty (px_v G v) = px_v G v) (hfit : fits ty (px_v G v) = true) (hh : h.set p0 (.inr (ci, fs.set k0 v)) = h') (k : px_W G D C S M (pc + 3) ls st h' Q) : px_W G D C S M pc ls (v :: .ref p0 :: st) h Q := by
  intro p l e R s m args below meth c H locs cells slots lsr Qm cx hS hR hl hd hlo hc hk
  subst hh
  obtain ⟨r, ref, g1, g2, g3, g4, g5, g6, g7⟩ := gf
  obtain ⟨C0, T, N⟩ := r
  have hts := cx.2.2.2.2.2.2.1
  have hown := cx.2.2.2.2.2.1
  have hK := cx.2.2.2.2.2.2.2.2.1
  have hin := (px_cls_tb ci _ g1).1
  obtain ⟨ty0, hty⟩ := (px_cls_tb ci _ g1).2.1
  have hnm := (px_cls_tb ci _ g1).2.2
  have hap := va_apart (own := M.1.cls) hts hin ty0 hty hnm hK g1
  obtain ⟨r', h1, cell, q1, q2, q3, q4⟩ := hR.at he
  have hr : r' = (C0, T, N) := Option.some.inj (h1.symm.trans g1)
  subst hr
  obtain ⟨hSl, hfc, kC, hkC, hkind⟩ := hK.1 ci _ g1
  obtain ⟨cf, kf, fi, f, hi, hsl⟩ := hSl k0 g2
  have hlay := hts _ (hin _ (u_in_lay g2))
  unfold u_lay at hlay
  rw [if_neg (by rw [g6]; decide)] at hlay
  have hst := (u_facts hfc hkC (u_lays hts hin g2) hi).1
  have h6 := u_store hfc hkC hkind hlay hi g5 hn hfit
  refine W.putK cx.1 cx.2.1 (f := f) ⟨hown, hts _ g3, ⟨_, _, _, px_same hts g4 _ hi⟩, hst⟩ (by rw [q2]; exact h6) q1 q3 (by rw [hsl]; exact k2_hasslot (q4 k0 g2)) rfl rfl d fun H' e1 e2 e3 => ?_
  rw [hsl] at e1
  refine k p l e R s m args below meth c H' _ cells slots lsr Qm cx (hS.put e2 e3 (Nat.le_add_right _ _)) (hR.set he e2 ⟨_, g1, ?_⟩ e3) hl hd hlo hc hk
  refine t_OB.to (V := updV (vp_V (fs.map (px_v G))) k0 (px_v G v)) ⟨_, e1, q2, q3, t_set q4 hap g2 _⟩ (fun j _ => ?_)
  rw [vp_updV_set (by simpa using hl0)]
  congr 1
  simp [List.map_set]
theorem wp_putF {idx ci k0 p0 : Nat} {ty : FieldType} {fs : List Value} {v : Value} (d : decode M.2.1 pc = .ok (.putfield idx, 3)) (gf : px_GF M.1.cls idx ci k0 ty true) (hnm0 : M.1.name = "<init>") (he : h[p0]? = some (.inr (ci, fs))) (hl0 : k0 < fs.length) (hn : narrow ty (px_v G v) = px_v G v) (hfit : fits ty (px_v G v) = true) (hh : h.set p0 (.inr (ci, fs.set k0 v)) = h') (k : px_W G D C S M (pc + 3) ls st h' Q) : px_W G D C S M pc ls (v :: .ref p0 :: st) h Q := by
  intro p l e R s m args below meth c H locs cells slots lsr Qm cx hS hR hl hd hlo hc hk
  subst hh
  obtain ⟨r, ref, g1, g2, g3, g4, g5, g6, g7⟩ := gf
  obtain ⟨C0, T, N⟩ := r
  have hts := cx.2.2.2.2.2.2.1
  have hown := cx.2.2.2.2.2.1
  have hK := cx.2.2.2.2.2.2.2.2.1
  have hin := (px_cls_tb ci _ g1).1
  obtain ⟨ty0, hty⟩ := (px_cls_tb ci _ g1).2.1
  have hnm := (px_cls_tb ci _ g1).2.2
  have hap := va_apart (own := M.1.cls) hts hin ty0 hty hnm hK g1
  obtain ⟨r', h1, cell, q1, q2, q3, q4⟩ := hR.at he
  have hr : r' = (C0, T, N) := Option.some.inj (h1.symm.trans g1)
  subst hr
  obtain ⟨hSl, hfc, kC, hkC, hkind⟩ := hK.1 ci _ g1
  obtain ⟨cf, kf, fi, f, hi, hsl⟩ := hSl k0 g2
  have hlay := hts _ (hin _ (u_in_lay g2))
  unfold u_lay at hlay
  rw [if_pos g6] at hlay
  have hst := (u_facts hfc hkC (u_lays hts hin g2) hi).1
  have hcf : m.cls = cf := by
    obtain ⟨_, _, c', _, _, _, -, -, hf', -, -, -, hown2, -⟩ := Cond.laysFinal_spec hlay
    have e1 : c' = cf := by have := hi.symm.trans hf'; simp at this; exact this.1.symm
    rw [g7 rfl] at hown2
    rw [← e1]; exact Option.some.inj (hown.symm.trans hown2)
  have h6 := u_fits hfc hkC hkind (Or.inr hlay) hi g5 hn hfit
  refine W.putFinK cx.1 cx.2.1 hown (hts _ g3) (px_same hts g4 _ hi) hst hcf (cx.2.2.2.2.2.2.2.1.trans hnm0) (by rw [q2]; exact h6) q1 q3 (by rw [hsl]; exact k2_hasslot (q4 k0 g2)) rfl rfl d fun H' e1 e2 e3 => ?_
  rw [hsl] at e1
  refine k p l e R s m args below meth c H' _ cells slots lsr Qm cx (hS.put e2 e3 (Nat.le_add_right _ _)) (hR.set he e2 ⟨_, g1, ?_⟩ e3) hl hd hlo hc hk
  refine t_OB.to (V := updV (vp_V (fs.map (px_v G))) k0 (px_v G v)) ⟨_, e1, q2, q3, t_set q4 hap g2 _⟩ (fun j _ => ?_)
  rw [vp_updV_set (by simpa using hl0)]
  congr 1
  simp [List.map_set]
theorem wp_iald {p0 n : Nat} {f : Nat → Int32} {i : Int32} (d : decode M.2.1 pc = .ok (.iaload, 1)) (he : h[p0]? = some (.inl (.int, n, .inl f))) (hi : vp_in i n) (k : px_W G D C S M (pc + 1) ls (.int (f i.toNatClampNeg) :: st) h Q) : px_W G D C S M pc ls (.int i :: .ref p0 :: st) h Q := by
  intro p l e R s m args below meth c H locs cells slots lsr Qm cx hS hR hl hd hlo hc hk
  exact va_iald cx.1 cx.2.1 cx.2.2.2.2.2.2.2.2.1 hR.2 p0 0 (px_ws_get he) rfl hi d (k p l e R s m args below meth c H locs cells slots lsr Qm cx hS hR hl hd hlo hc hk)
theorem wp_cald {p0 n : Nat} {f : Nat → Int32} {i : Int32} (d : decode M.2.1 pc = .ok (.caload, 1)) (he : h[p0]? = some (.inl (.char, n, .inl f))) (hi : vp_in i n) (k : px_W G D C S M (pc + 1) ls (.int (f i.toNatClampNeg) :: st) h Q) : px_W G D C S M pc ls (.int i :: .ref p0 :: st) h Q := by
  intro p l e R s m args below meth c H locs cells slots lsr Qm cx hS hR hl hd hlo hc hk
  exact va_cald cx.1 cx.2.1 cx.2.2.2.2.2.2.2.2.1 hR.2 p0 2 (px_ws_get he) rfl hi d (k p l e R s m args below meth c H locs cells slots lsr Qm cx hS hR hl hd hlo hc hk)
theorem wp_zald {p0 n : Nat} {f : Nat → Int32} {i : Int32} (d : decode M.2.1 pc = .ok (.baload, 1)) (he : h[p0]? = some (.inl (.boolean, n, .inl f))) (hi : vp_in i n) (k : px_W G D C S M (pc + 1) ls (.int (f i.toNatClampNeg) :: st) h Q) : px_W G D C S M pc ls (.int i :: .ref p0 :: st) h Q := by
  intro p l e R s m args below meth c H locs cells slots lsr Qm cx hS hR hl hd hlo hc hk
  exact va_zald cx.1 cx.2.1 cx.2.2.2.2.2.2.2.2.1 hR.2 p0 3 (px_ws_get he) rfl hi d (k p l e R s m args below meth c H locs cells slots lsr Qm cx hS hR hl hd hlo hc hk)
theorem wp_lald {p0 n : Nat} {f : Nat → Int64} {i : Int32} (d : decode M.2.1 pc = .ok (.laload, 1)) (he : h[p0]? = some (.inl (.long, n, .inr (.inl f)))) (hi : vp_in i n) (k : px_W G D C S M (pc + 1) ls (.long (f i.toNatClampNeg) :: st) h Q) : px_W G D C S M pc ls (.int i :: .ref p0 :: st) h Q := by
  intro p l e R s m args below meth c H locs cells slots lsr Qm cx hS hR hl hd hlo hc hk
  exact va_lald cx.1 cx.2.1 cx.2.2.2.2.2.2.2.2.1 hR.2 p0 1 (px_ws_get he) rfl hi d (k p l e R s m args below meth c H locs cells slots lsr Qm cx hS hR hl hd hlo hc hk)
/-- the classes whose rows of references are made: 4 Man, 5 Scaffold, 6 Tape -/
def px_rt (t0 : Nat) (E : String) : Prop := ∀ G : px_G, (px_tys G)[t0]? = some (G.2.2.1 (.object E), .object E)
theorem wp_aald {p0 n t0 : Nat} {E : String} {f : Nat → Option Nat} {i : Int32} (d : decode M.2.1 pc = .ok (.aaload, 1)) (ht : px_rt t0 E) (he : h[p0]? = some (.inl (.object E, n, .inr (.inr (.inr (.inr f)))))) (hi : vp_in i n) (k : px_W G D C S M (pc + 1) ls (va_rf (f i.toNatClampNeg) :: st) h Q) : px_W G D C S M pc ls (.int i :: .ref p0 :: st) h Q := by
  intro p l e R s m args below meth c H locs cells slots lsr Qm cx hS hR hl hd hlo hc hk
  have k1 := (k p l e R s m args below meth c H locs cells slots lsr Qm cx hS hR hl hd hlo hc hk)
  have e : px_v G (va_rf (f i.toNatClampNeg)) = va_rf ((f i.toNatClampNeg).map (fun k => G.1 + k)) := by cases f i.toNatClampNeg <;> rfl
  rw [List.map_cons, e] at k1
  exact va_aldq cx.1 cx.2.1 cx.2.2.2.2.2.2.2.2.1 hR.2 p0 t0 (px_ws_get he) (ht G) hi d k1
theorem wp_alen {p0 t0 : Nat} {ty : FieldType} {x : vp_A} {v : Int32} (d : decode M.2.1 pc = .ok (.arraylength, 1)) (he : h[p0]? = some (.inl (ty, x))) (ht : (px_tys G)[t0]? = some (G.2.2.1 ty, ty)) (hv : Int32.ofNat x.1 = v) (k : px_W G D C S M (pc + 1) ls (.int v :: st) h Q) : px_W G D C S M pc ls (.ref p0 :: st) h Q := by
  intro p l e R s m args below meth c H locs cells slots lsr Qm cx hS hR hl hd hlo hc hk
  exact va_alen cx.1 cx.2.1 cx.2.2.2.2.2.2.2.2.1 hR.2 p0 t0 (px_ws_get he) ht (by rw [← hv]; obtain ⟨n, x⟩ := x; rcases x with x | x | x | x | x <;> rfl) d (k p l e R s m args below meth c H locs cells slots lsr Qm cx hS hR hl hd hlo hc hk)
theorem wp_iast {p0 n : Nat} {f : Nat → Int32} {i : Int32} {x : Int32} (d : decode M.2.1 pc = .ok (.iastore, 1)) (he : h[p0]? = some (.inl (.int, n, .inl f))) (hi : vp_in i n) (hh : h.set p0 (.inl (.int, n, .inl (upd f i.toNatClampNeg x))) = h') (k : px_W G D C S M (pc + 1) ls st h' Q) : px_W G D C S M pc ls (.int x :: .int i :: .ref p0 :: st) h Q := by
  intro p l e R s m args below meth c H locs cells slots lsr Qm cx hS hR hl hd hlo hc hk
  subst hh
  have ha : H[G.1 + p0]? = some (vp_cell (G.2.2.1 .int) (n, .inl f)) := hR.at he
  refine W.iast cx.1 cx.2.1 ha ((cx.2.2.2.2.2.2.2.2.1.2 0 _ rfl).1 n (fun j => .int (f j))) (fun q => by cases q) (by show ¬ (i < 0 ∨ (arrV _ _ _).slots.size ≤ _); rw [arrV_size]; exact hi) rfl rfl d fun H1 e1 z oq => ?_
  refine k p l e R s m args below meth c H1 _ cells slots lsr Qm cx (hS.put z oq (Nat.le_add_right _ _)) (hR.set he z ?_ oq) hl hd hlo hc hk
  show H1[G.1 + p0]? = some (vp_cell _ _)
  rw [e1]
  show some (Cell.setSlot (vp_cell (G.2.2.1 .int) (n, .inl f)) _ _) = some (vp_cell (G.2.2.1 .int) (n, .inl (upd f i.toNatClampNeg x)))
  rw [vp_cell_i, vp_cell_i, arrV_store]
  congr 2
  funext q
  by_cases hq : q = i.toNatClampNeg
  · subst hq
    simp [updV, upd, vp_updL, vp_nar]
    try rfl
  · simp [updV, upd, vp_updL, hq]
theorem wp_zast {p0 n : Nat} {f : Nat → Int32} {i : Int32} {x : Int32} (d : decode M.2.1 pc = .ok (.bastore, 1)) (he : h[p0]? = some (.inl (.boolean, n, .inl f))) (hi : vp_in i n) (hh : h.set p0 (.inl (.boolean, n, .inl (upd f i.toNatClampNeg (vp_nar .boolean x)))) = h') (k : px_W G D C S M (pc + 1) ls st h' Q) : px_W G D C S M pc ls (.int x :: .int i :: .ref p0 :: st) h Q := by
  intro p l e R s m args below meth c H locs cells slots lsr Qm cx hS hR hl hd hlo hc hk
  subst hh
  have ha : H[G.1 + p0]? = some (vp_cell (G.2.2.1 .boolean) (n, .inl f)) := hR.at he
  refine W.zast cx.1 cx.2.1 ha ((cx.2.2.2.2.2.2.2.2.1.2 3 _ rfl).1 n (fun j => .int (f j))) (fun q => by cases q) (by show ¬ (i < 0 ∨ (arrV _ _ _).slots.size ≤ _); rw [arrV_size]; exact hi) rfl rfl d fun H1 e1 z oq => ?_
  refine k p l e R s m args below meth c H1 _ cells slots lsr Qm cx (hS.put z oq (Nat.le_add_right _ _)) (hR.set he z ?_ oq) hl hd hlo hc hk
  show H1[G.1 + p0]? = some (vp_cell _ _)
  rw [e1]
  show some (Cell.setSlot (vp_cell (G.2.2.1 .boolean) (n, .inl f)) _ _) = some (vp_cell (G.2.2.1 .boolean) (n, .inl (upd f i.toNatClampNeg (vp_nar .boolean x))))
  rw [vp_cell_i, vp_cell_i, arrV_store]
  congr 2
  funext q
  by_cases hq : q = i.toNatClampNeg
  · subst hq
    simp [updV, upd, vp_updL, vp_nar]
    try rfl
  · simp [updV, upd, vp_updL, hq]
theorem wp_cast {p0 n : Nat} {f : Nat → Int32} {i : Int32} {x : Int32} (d : decode M.2.1 pc = .ok (.castore, 1)) (he : h[p0]? = some (.inl (.char, n, .inl f))) (hi : vp_in i n) (hh : h.set p0 (.inl (.char, n, .inl (upd f i.toNatClampNeg (vp_nar .char x)))) = h') (k : px_W G D C S M (pc + 1) ls st h' Q) : px_W G D C S M pc ls (.int x :: .int i :: .ref p0 :: st) h Q := by
  intro p l e R s m args below meth c H locs cells slots lsr Qm cx hS hR hl hd hlo hc hk
  subst hh
  have ha : H[G.1 + p0]? = some (vp_cell (G.2.2.1 .char) (n, .inl f)) := hR.at he
  refine W.cast cx.1 cx.2.1 ha ((cx.2.2.2.2.2.2.2.2.1.2 2 _ rfl).1 n (fun j => .int (f j))) (fun q => by cases q) (by show ¬ (i < 0 ∨ (arrV _ _ _).slots.size ≤ _); rw [arrV_size]; exact hi) rfl rfl d fun H1 e1 z oq => ?_
  refine k p l e R s m args below meth c H1 _ cells slots lsr Qm cx (hS.put z oq (Nat.le_add_right _ _)) (hR.set he z ?_ oq) hl hd hlo hc hk
  show H1[G.1 + p0]? = some (vp_cell _ _)
  rw [e1]
  show some (Cell.setSlot (vp_cell (G.2.2.1 .char) (n, .inl f)) _ _) = some (vp_cell (G.2.2.1 .char) (n, .inl (upd f i.toNatClampNeg (vp_nar .char x))))
  rw [vp_cell_i, vp_cell_i, arrV_store]
  congr 2
  funext q
  by_cases hq : q = i.toNatClampNeg
  · subst hq
    simp [updV, upd, vp_updL, vp_nar]
    try rfl
  · simp [updV, upd, vp_updL, hq]
theorem wp_last {p0 n : Nat} {f : Nat → Int64} {i : Int32} {x : Int64} (d : decode M.2.1 pc = .ok (.lastore, 1)) (he : h[p0]? = some (.inl (.long, n, .inr (.inl f)))) (hi : vp_in i n) (hh : h.set p0 (.inl (.long, n, .inr (.inl (vp_updL f i.toNatClampNeg x)))) = h') (k : px_W G D C S M (pc + 1) ls st h' Q) : px_W G D C S M pc ls (.long x :: .int i :: .ref p0 :: st) h Q := by
  intro p l e R s m args below meth c H locs cells slots lsr Qm cx hS hR hl hd hlo hc hk
  subst hh
  have ha : H[G.1 + p0]? = some (vp_cell (G.2.2.1 .long) (n, .inr (.inl f))) := hR.at he
  refine W.last cx.1 cx.2.1 ha ((cx.2.2.2.2.2.2.2.2.1.2 1 _ rfl).1 n (fun j => .long (f j))) (fun q => by cases q) (by show ¬ (i < 0 ∨ (arrV _ _ _).slots.size ≤ _); rw [arrV_size]; exact hi) rfl rfl d fun H1 e1 z oq => ?_
  refine k p l e R s m args below meth c H1 _ cells slots lsr Qm cx (hS.put z oq (Nat.le_add_right _ _)) (hR.set he z ?_ oq) hl hd hlo hc hk
  show H1[G.1 + p0]? = some (vp_cell _ _)
  rw [e1]
  show some (Cell.setSlot (vp_cell (G.2.2.1 .long) (n, .inr (.inl f))) _ _) = some (vp_cell (G.2.2.1 .long) (n, .inr (.inl (vp_updL f i.toNatClampNeg x))))
  rw [vp_cell_l, vp_cell_l, arrV_store]
  congr 2
  funext q
  by_cases hq : q = i.toNatClampNeg
  · subst hq
    simp [updV, upd, vp_updL, vp_nar]
    try rfl
  · simp [updV, upd, vp_updL, hq]
/-- an object of class ci may stand in a row of E -/
def px_sub (ci : Nat) (E : String) : Prop := ∃ r : vw_C, px_cls[ci]? = some r ∧ (r.1 = E ∨ Cond.castable r.1 E ∈ px_tb)
theorem px_any {s : State} {args : Array Value} {H : Heap} {y ci : Nat} {fs : List Value} {E : String} (hts : ∀ w ∈ px_tb, w.before args s = true) (hK : va_K G.2.1 px_cls (px_tys G) s) (hR : px_R G h H) (he : h[y]? = some (.inr (ci, fs))) (hs : px_sub ci E) : va_Any E s H (G.1 + y) := by
  obtain ⟨r, h1, h2⟩ := hs
  refine va_rAny hK hR.2 (px_ws_get he) h1 fun comp c0 f1 f2 => ?_
  rcases h2 with h2 | h2
  · have q := (hK.1 ci r h1).2
    rw [h2] at q f2
    have e0 := f1.symm.trans f2
    cases e0
    have e1 := q.1.symm.trans f1
    cases e1
    exact va_assign q
  · obtain ⟨c1, t1, g1, g2, g3⟩ := Cond.castable_spec (hts _ h2)
    cases f1.symm.trans g2
    cases f2.symm.trans g1
    exact g3
theorem wp_aast {p0 n t0 y ci : Nat} {fs : List Value} {E : String} {f : Nat → Option Nat} {i : Int32} (d : decode M.2.1 pc = .ok (.aastore, 1)) (ht : px_rt t0 E) (he : h[p0]? = some (.inl (.object E, n, .inr (.inr (.inr (.inr f)))))) (hy : h[y]? = some (.inr (ci, fs))) (hs : px_sub ci E) (hi : vp_in i n) (hh : h.set p0 (.inl (.object E, n, .inr (.inr (.inr (.inr (va_up f i.toNatClampNeg (some y))))))) = h') (k : px_W G D C S M (pc + 1) ls st h' Q) : px_W G D C S M pc ls (.ref y :: .int i :: .ref p0 :: st) h Q := by
  intro p l e R s m args below meth c H locs cells slots lsr Qm cx hS hR hl hd hlo hc hk
  subst hh
  have hts := cx.2.2.2.2.2.2.1
  have hK := cx.2.2.2.2.2.2.2.2.1
  have ha : H[G.1 + p0]? = some (vp_cell (G.2.2.1 (.object E)) (n, .inr (.inr (.inr (.inr (fun j => (f j).map (fun k => G.1 + k))))))) := hR.at he
  have hlt : i.toNatClampNeg < n := Nat.not_le.mp fun q => hi (Or.inr q)
  have h0 : ¬ i < 0 := fun q => hi (Or.inl q)
  obtain ⟨cellV, w1, w3, ⟨kC, hkC⟩, hasg⟩ := px_any hts hK hR hy hs
  obtain ⟨kA, comp, k1, k2, k3, -⟩ := (hK.2 t0 _ (ht G)).2
  obtain ⟨kE, hkE, -⟩ := Vm.findClass_spec k3
  refine W.aast cx.1 cx.2.1 ha (fun q h => by cases h) (fun h => by cases h) k1 k2 rfl hkE ⟨h0, by show _ < (arrV _ _ _).slots.size; rw [arrV_size]; exact hlt⟩ w1 (fun q h => by rw [h] at w3; cases w3) hkC (hasg _ k3) rfl rfl d fun H1 e1 z oq => ?_
  refine k p l e R s m args below meth c H1 _ cells slots lsr Qm cx (hS.put z oq (Nat.le_add_right _ _)) (hR.set he z ?_ oq) hl hd hlo hc hk
  show H1[G.1 + p0]? = some (vp_cell _ _)
  rw [e1]
  show some (Cell.setSlot (vp_cell (G.2.2.1 (.object E)) (n, .inr (.inr (.inr (.inr (fun j => (f j).map (fun k => G.1 + k))))))) _ _) = some (vp_cell (G.2.2.1 (.object E)) (n, .inr (.inr (.inr (.inr (fun j => (va_up f i.toNatClampNeg (some y) j).map (fun k => G.1 + k)))))))
  rw [vp_cell_q, vp_cell_q, arrV_store]
  congr 2
  funext q
  by_cases hq : q = i.toNatClampNeg
  · subst hq
    simp [updV, va_up, va_rf]
  · simp [updV, va_up, hq]
/-! what is made -/
theorem wp_new {idx ci N C' S' : Nat} {fs : List Value} (d : decode M.2.1 pc = .ok (.new idx, 3)) (hcl : ∃ r, px_cls[ci]? = some r ∧ r.2.2 = N ∧ Cond.classLink M.1.cls idx r.1 ∈ px_tb ∧ Cond.instantiable r.1 N ∈ px_tb ∧ Cond.initialized r.1 ∈ px_tb ∧ ∀ j, j < N → ∃ ty, parseFieldDescriptor (r.2.1 j).2.2.1 = some ty ∧ defaultValue ty = vp_V fs j) (hfs : fs.map (px_v G) = fs) (hC : C = C' + 1) (hS0 : S = S' + N) (k : px_W G D C' S' M (pc + 3) ls (.ref h.length :: st) (h ++ [.inr (ci, fs)]) Q) : px_W G D C S M pc ls st h Q := by
  intro p l e R s m args below meth c H locs cells slots lsr Qm cx hS hR hl hd hlo hc hk
  obtain ⟨r, g1, g2, g3, g4, g5, g6⟩ := hcl
  obtain ⟨C0, T, N0⟩ := r
  have g2 : N0 = N := g2
  subst g2
  subst hC
  subst hS0
  have hts := cx.2.2.2.2.2.2.1
  have hK := cx.2.2.2.2.2.2.2.2.1
  have hKn := hK.1 ci _ g1
  obtain ⟨ty0, hty⟩ := (px_cls_tb ci _ g1).2.1
  refine W.newcK cx.1 cx.2.1 cx.2.2.2.2.2.1 (hts _ g3) (hts _ g4) (hts _ g5) rfl d (by omega) (by omega) hKn.2.1 rfl fun H1 kC hkC e1 z1 o1 => ?_
  have k1 := k p l e R s m args below meth c H1 locs (cells + 1) (slots + N0) lsr Qm cx ⟨Nat.le_trans hS.1 (by omega), fun x h1 h2 => (o1 x (Nat.lt_of_lt_of_le h1 hS.1)).trans (hS.2.1 x h1 h2), hS.2.2⟩ (hR.push z1 ?_ o1) hl hd (by omega) (by omega) (fun pc' lsr' H' locs' rv h' a1 a2 a3 a4 => by
    rw [show cells + 1 + C' = cells + (C' + 1) by omega, show slots + N0 + S' = slots + (S' + N0) by omega]
    exact hk pc' lsr' H' locs' rv h' a1 a2 a3 a4)
  · rw [hR.1]
    exact k1
  · rw [hR.1] at e1
    refine ⟨_, g1, (u_born ty0 hts (px_cls_tb ci _ g1).1 hKn hkC e1 hty).to (fun j hj => ?_)⟩
    obtain ⟨ty, t1, t2⟩ := g6 j hj
    rw [show ty0 j = ty from Option.some.inj ((hty j hj).symm.trans t1)]
    show defaultValue ty = vp_V (fs.map (px_v G)) j
    rw [hfs]
    exact t2
theorem wp_newa {at0 : ArrayType} {t0 n0 C' S' : Nat} {ty : FieldType} {n : Int32} {a0 : vp_A} (d : decode M.2.1 pc = .ok (.newarray at0, 2)) (hty : newarray.typeOf at0 = ty) (hw : Cond.arrayClass ty ∈ px_tb) (ht : ∀ G : px_G, (px_tys G)[t0]? = some (G.2.2.1 ty, ty)) (hr : ∀ C : String, ty ≠ .object C) (ha : ∀ (cA : ClassId), vp_cell cA (px_c G a0) = arrV cA n0 (fun _ => defaultValue ty)) (hn : ¬ n < 0) (hN : n.toNatClampNeg = n0) (hb : n0 * componentBytes ty ≤ 536870912) (hC : C = C' + 1) (hS0 : S = S' + n0) (k : px_W G D C' S' M (pc + 2) ls (.ref h.length :: st) (h ++ [.inl (ty, a0)]) Q) : px_W G D C S M pc ls (.int n :: st) h Q := by
  intro p l e R s m args below meth c H locs cells slots lsr Qm cx hS hR hl hd hlo hc hk
  subst hC
  subst hS0
  subst hty
  have hts := cx.2.2.2.2.2.2.1
  have hK := cx.2.2.2.2.2.2.2.2.1
  refine va_newaK cx.1 cx.2.1 (hts _ hw) rfl d rfl hn hN hb (by omega) (by omega) rfl fun H1 cA e1 z1 o1 hA hf => ?_
  have hc0 : G.2.2.1 (newarray.typeOf at0) = cA := by
    have h2 := (hK.2 t0 _ (ht G)).2
    revert h2 hf hr
    generalize newarray.typeOf at0 = ty
    intro hr hf h2
    cases ty with
    | object C0 => exact absurd rfl (hr C0)
    | _ => exact Option.some.inj (h2.symm.trans hf)
  have k1 := k p l e R s m args below meth c H1 locs (cells + 1) (slots + n0) lsr Qm cx ⟨Nat.le_trans hS.1 (by omega), fun x h1 h2 => (o1 x (Nat.lt_of_lt_of_le h1 hS.1)).trans (hS.2.1 x h1 h2), hS.2.2⟩ (hR.push z1 ?_ o1) hl hd (by omega) (by omega) (fun pc' lsr' H' locs' rv h' a1 a2 a3 a4 => by
    rw [show cells + 1 + C' = cells + (C' + 1) by omega, show slots + n0 + S' = slots + (S' + n0) by omega]
    exact hk pc' lsr' H' locs' rv h' a1 a2 a3 a4)
  · rw [hR.1]
    exact k1
  · rw [hR.1] at e1
    show H1[G.1 + h.length]? = some (vp_cell _ _)
    rw [e1, hc0]
    exact congrArg some (ha cA).symm
theorem wp_newq {idx t0 n0 C' S' : Nat} {E : String} {n : Int32} (d : decode M.2.1 pc = .ok (.anewarray idx, 3)) (hcl : Cond.classLink M.1.cls idx E ∈ px_tb) (hov : Cond.arrayOver (.object E) ∈ px_tb) (ht : px_rt t0 E) (hn : ¬ n < 0) (hN : n.toNatClampNeg = n0) (hb : n0 * 4 ≤ 536870912) (hC : C = C' + 1) (hS0 : S = S' + n0) (k : px_W G D C' S' M (pc + 3) ls (.ref h.length :: st) (h ++ [.inl (.object E, n0, .inr (.inr (.inr (.inr (fun _ => none)))))]) Q) : px_W G D C S M pc ls (.int n :: st) h Q := by
  intro p l e R s m args below meth c H locs cells slots lsr Qm cx hS hR hl hd hlo hc hk
  subst hC
  subst hS0
  subst hN
  have hts := cx.2.2.2.2.2.2.1
  have hK := cx.2.2.2.2.2.2.2.2.1
  refine W.anew cx.1 cx.2.1 cx.2.2.2.2.2.1 (hts _ hcl) (hts _ hov) rfl d rfl hn hb (by omega) (by omega) fun cA kA comp f1 f2 f3 f4 => ?_
  have hc0 : G.2.2.1 (.object E) = cA := by
    obtain ⟨kA', comp', q1, q2, q3, q4⟩ := (hK.2 t0 _ (ht G)).2
    exact Option.some.inj (q4.symm.trans f1)
  generalize hH1 : H.push ({ cls := cA, slots := Array.replicate n.toNatClampNeg .null, vm := .none } : Cell) = H1
  have z1 : H1.size = H.size + 1 := by rw [← hH1, Array.size_push]
  have e1 : H1[H.size]? = some (arrV cA n.toNatClampNeg (fun _ => .null)) := by rw [← hH1, Array.getElem?_push_size, ← arrV_new]
  have o1 : ∀ q : Nat, q < H.size → H1[q]? = H[q]? := fun q hq => by rw [← hH1, Array.getElem?_push, if_neg (Nat.ne_of_lt hq)]
  have k1 := k p l e R s m args below meth c H1 locs (cells + 1) (slots + n.toNatClampNeg) lsr Qm cx ⟨Nat.le_trans hS.1 (by omega), fun x h1 h2 => (o1 x (Nat.lt_of_lt_of_le h1 hS.1)).trans (hS.2.1 x h1 h2), hS.2.2⟩ (hR.push z1 ?_ o1) hl hd (by omega) (by omega) (fun pc' lsr' H' locs' rv h' a1 a2 a3 a4 => by
    rw [show cells + 1 + C' = cells + (C' + 1) by omega, show slots + n.toNatClampNeg + S' = slots + (S' + n.toNatClampNeg) by omega]
    exact hk pc' lsr' H' locs' rv h' a1 a2 a3 a4)
  · rw [hR.1]
    exact k1
  · rw [hR.1] at e1
    show H1[G.1 + h.length]? = some (vp_cell _ _)
    rw [e1, hc0]
    rfl
/-! what is only read -/
theorem wp_sld {i : Int32} (d : decode M.2.1 pc = .ok (.iaload, 1)) (hi : vp_in i G.2.2.2.2.1) (k : px_W G D C S M (pc + 1) ls (.int (G.2.2.2.2.2 i.toNatClampNeg) :: st) h Q) : px_W G D C S M pc ls (.int i :: .retAddr 0 :: st) h Q := by
  intro p l e R s m args below meth c H locs cells slots lsr Qm cx hS hR hl hd hlo hc hk
  obtain ⟨⟨b, b1, b2, b3, b4⟩, -⟩ := cx.2.2.2.2.2.2.2.2.2.1
  have k1 := (k p l e R s m args below meth c H locs cells slots lsr Qm cx hS hR hl hd hlo hc hk)
  have e : px_v G (.retAddr 0) = .ref b := by show va_rf (G.2.2.2.1 0) = _; rw [b1]; rfl
  rw [List.map_cons, List.map_cons, e]
  exact va_sld cx.1 cx.2.1 b2 b3 b4 hS hi d k1
theorem wp_slen {v : Int32} (d : decode M.2.1 pc = .ok (.arraylength, 1)) (hv : Int32.ofNat G.2.2.2.2.1 = v) (k : px_W G D C S M (pc + 1) ls (.int v :: st) h Q) : px_W G D C S M pc ls (.retAddr 0 :: st) h Q := by
  intro p l e R s m args below meth c H locs cells slots lsr Qm cx hS hR hl hd hlo hc hk
  subst hv
  obtain ⟨⟨b, b1, b2, b3, b4⟩, -⟩ := cx.2.2.2.2.2.2.2.2.2.1
  have k1 := (k p l e R s m args below meth c H locs cells slots lsr Qm cx hS hR hl hd hlo hc hk)
  have e : px_v G (.retAddr 0) = .ref b := by show va_rf (G.2.2.2.1 0) = _; rw [b1]; rfl
  rw [List.map_cons, e]
  exact va_slen cx.1 cx.2.1 b2 b3 b4 hS d k1
theorem wp_getABOVE {idx : Nat} (d : decode M.2.1 pc = .ok (.getstatic idx, 3)) (w : Cond.fieldLink M.1.cls idx "TubeChain" "ABOVE" "[I" ∈ px_tb) (k : px_W G D C S M (pc + 3) ls (.retAddr 1 :: st) h Q) : px_W G D C S M pc ls st h Q := by
  intro p l e R s m args below meth c H locs cells slots lsr Qm cx hS hR hl hd hlo hc hk
  obtain ⟨-, ⟨a, a1, a2, a3⟩, -⟩ := cx.2.2.2.2.2.2.2.2.2.1
  have k1 := (k p l e R s m args below meth c H locs cells slots lsr Qm cx hS hR hl hd hlo hc hk)
  have e : px_v G (.retAddr 1) = .ref a := by show va_rf (G.2.2.2.1 1) = _; rw [a1]; rfl
  rw [List.map_cons, e] at k1
  exact va_gets cx.1 cx.2.1 a2 hS cx.2.2.2.2.2.1 (cx.2.2.2.2.2.2.1 _ w) (fun x hx => hx) d k1
theorem wp_aboveld {i : Int32} (d : decode M.2.1 pc = .ok (.iaload, 1)) (hi : vp_in i 7) (k : px_W G D C S M (pc + 1) ls (.int (px_above i.toNatClampNeg) :: st) h Q) : px_W G D C S M pc ls (.int i :: .retAddr 1 :: st) h Q := by
  intro p l e R s m args below meth c H locs cells slots lsr Qm cx hS hR hl hd hlo hc hk
  obtain ⟨-, ⟨a, a1, a2, a3⟩, -⟩ := cx.2.2.2.2.2.2.2.2.2.1
  have k1 := (k p l e R s m args below meth c H locs cells slots lsr Qm cx hS hR hl hd hlo hc hk)
  have e : px_v G (.retAddr 1) = .ref a := by show va_rf (G.2.2.2.1 1) = _; rw [a1]; rfl
  rw [List.map_cons, List.map_cons, e]
  exact va_ti cx.1 cx.2.1 a3 hS hi rfl d k1
theorem wp_abovelen (d : decode M.2.1 pc = .ok (.arraylength, 1)) (k : px_W G D C S M (pc + 1) ls (.int 7 :: st) h Q) : px_W G D C S M pc ls (.retAddr 1 :: st) h Q := by
  intro p l e R s m args below meth c H locs cells slots lsr Qm cx hS hR hl hd hlo hc hk
  obtain ⟨-, ⟨a, a1, a2, a3⟩, -⟩ := cx.2.2.2.2.2.2.2.2.2.1
  have k1 := (k p l e R s m args below meth c H locs cells slots lsr Qm cx hS hR hl hd hlo hc hk)
  have e : px_v G (.retAddr 1) = .ref a := by show va_rf (G.2.2.2.1 1) = _; rw [a1]; rfl
  rw [List.map_cons, e]
  exact va_tlen cx.1 cx.2.1 a3 hS rfl d k1
theorem wp_getFMT {idx : Nat} (d : decode M.2.1 pc = .ok (.getstatic idx, 3)) (w : Cond.fieldLink M.1.cls idx "jdk/internal/util/Preconditions" "SIOOBE_FORMATTER" "Ljava/util/function/BiFunction;" ∈ px_tb) (k : px_W G D C S M (pc + 3) ls (.retAddr 2 :: st) h Q) : px_W G D C S M pc ls st h Q := by
  intro p l e R s m args below meth c H locs cells slots lsr Qm cx hS hR hl hd hlo hc hk
  obtain ⟨-, -, a2, -⟩ := cx.2.2.2.2.2.2.2.2.2.1
  exact va_gets cx.1 cx.2.1 a2 hS cx.2.2.2.2.2.1 (cx.2.2.2.2.2.2.1 _ w) (fun x hx => hx) d (k p l e R s m args below meth c H locs cells slots lsr Qm cx hS hR hl hd hlo hc hk)
theorem wp_getCOMPACT {idx : Nat} (d : decode M.2.1 pc = .ok (.getstatic idx, 3)) (w : Cond.fieldLink M.1.cls idx "java/lang/String" "COMPACT_STRINGS" "Z" ∈ px_tb) (k : px_W G D C S M (pc + 3) ls (.int 1 :: st) h Q) : px_W G D C S M pc ls st h Q := by
  intro p l e R s m args below meth c H locs cells slots lsr Qm cx hS hR hl hd hlo hc hk
  obtain ⟨-, -, -, a2, -⟩ := cx.2.2.2.2.2.2.2.2.2.1
  exact va_gets cx.1 cx.2.1 a2 hS cx.2.2.2.2.2.1 (cx.2.2.2.2.2.2.1 _ w) (fun x hx => hx) d (k p l e R s m args below meth c H locs cells slots lsr Qm cx hS hR hl hd hlo hc hk)
theorem wp_ldcS {i : Nat} (hc0 : M.1.cls = "TubeChain$Scaffold") (hi : i < 3) (d : decode M.2.1 pc = .ok (.ldc (px_txi i), 2)) (k : px_W G D C S M (pc + 2) ls (.retAddr (3 + i) :: st) h Q) : px_W G D C S M pc ls st h Q := by
  intro p l e R s m args below meth c H locs cells slots lsr Qm cx hS hR hl hd hlo hc hk
  obtain ⟨-, -, -, -, -, adK, adV, k1, k2, k3⟩ := cx.2.2.2.2.2.2.2.2.2.1
  have k0 := (k p l e R s m args below meth c H locs cells slots lsr Qm cx hS hR hl hd hlo hc hk)
  have e : px_v G (.retAddr (3 + i)) = .ref (adK i) := by show va_rf (G.2.2.2.1 (3 + i)) = _; rw [(k1 i hi).1]; rfl
  rw [List.map_cons, e] at k0
  exact va_ldcS cx.1 cx.2.1 (by rw [← hc0]; exact cx.2.2.2.2.2.1) (k3 i hi) d k0
theorem wp_strcoder {i idx : Nat} (hi : i < 3) (d : decode M.2.1 pc = .ok (.getfield idx, 3)) (w : Cond.fieldLink M.1.cls idx "java/lang/String" "coder" "B" ∈ px_tb) (k : px_W G D C S M (pc + 3) ls (.int 0 :: st) h Q) : px_W G D C S M pc ls (.retAddr (3 + i) :: st) h Q := by
  intro p l e R s m args below meth c H locs cells slots lsr Qm cx hS hR hl hd hlo hc hk
  obtain ⟨-, -, -, -, -, adK, adV, k1, k2, k3⟩ := cx.2.2.2.2.2.2.2.2.2.1
  have k0 := (k p l e R s m args below meth c H locs cells slots lsr Qm cx hS hR hl hd hlo hc hk)
  have e : px_v G (.retAddr (3 + i)) = .ref (adK i) := by show va_rf (G.2.2.2.1 (3 + i)) = _; rw [(k1 i hi).1]; rfl
  rw [List.map_cons, e]
  exact vk_getf cx.1 cx.2.1 (k2.1 i hi).2.1 hS cx.2.2.2.2.2.1 (cx.2.2.2.2.2.2.1 _ w) (fun x hx => hx) d k0
theorem wp_strvalue {i idx : Nat} (hi : i < 3) (d : decode M.2.1 pc = .ok (.getfield idx, 3)) (w : Cond.fieldLink M.1.cls idx "java/lang/String" "value" "[B" ∈ px_tb) (k : px_W G D C S M (pc + 3) ls (.retAddr (6 + i) :: st) h Q) : px_W G D C S M pc ls (.retAddr (3 + i) :: st) h Q := by
  intro p l e R s m args below meth c H locs cells slots lsr Qm cx hS hR hl hd hlo hc hk
  obtain ⟨-, -, -, -, -, adK, adV, k1, k2, k3⟩ := cx.2.2.2.2.2.2.2.2.2.1
  have k0 := (k p l e R s m args below meth c H locs cells slots lsr Qm cx hS hR hl hd hlo hc hk)
  have e : px_v G (.retAddr (3 + i)) = .ref (adK i) := by show va_rf (G.2.2.2.1 (3 + i)) = _; rw [(k1 i hi).1]; rfl
  have e2 : px_v G (.retAddr (6 + i)) = .ref (adV i) := by show va_rf (G.2.2.2.1 (6 + i)) = _; rw [(k1 i hi).2]; rfl
  rw [List.map_cons, e2] at k0
  rw [List.map_cons, e]
  exact vk_getf cx.1 cx.2.1 (k2.1 i hi).2.2.1 hS cx.2.2.2.2.2.1 (cx.2.2.2.2.2.2.1 _ w) (fun x hx => hx) d k0
theorem wp_strlen {i : Nat} {v : Int32} (hi : i < 3) (d : decode M.2.1 pc = .ok (.arraylength, 1)) (hv : Int32.ofNat (px_len.getD i 0) = v) (k : px_W G D C S M (pc + 1) ls (.int v :: st) h Q) : px_W G D C S M pc ls (.retAddr (6 + i) :: st) h Q := by
  intro p l e R s m args below meth c H locs cells slots lsr Qm cx hS hR hl hd hlo hc hk
  obtain ⟨-, -, -, -, -, adK, adV, k1, k2, k3⟩ := cx.2.2.2.2.2.2.2.2.2.1
  have k0 := (k p l e R s m args below meth c H locs cells slots lsr Qm cx hS hR hl hd hlo hc hk)
  have e2 : px_v G (.retAddr (6 + i)) = .ref (adV i) := by show va_rf (G.2.2.2.1 (6 + i)) = _; rw [(k1 i hi).2]; rfl
  rw [List.map_cons, e2]
  exact va_tlen cx.1 cx.2.1 (k2.1 i hi).2.2.2 hS hv d k0
theorem wp_strb {i : Nat} {j : Int32} (hi : i < 3) (d : decode M.2.1 pc = .ok (.baload, 1)) (hj : vp_in j (px_len.getD i 0)) (k : px_W G D C S M (pc + 1) ls (.int ((px_byt.getD i []).getD j.toNatClampNeg 0) :: st) h Q) : px_W G D C S M pc ls (.int j :: .retAddr (6 + i) :: st) h Q := by
  intro p l e R s m args below meth c H locs cells slots lsr Qm cx hS hR hl hd hlo hc hk
  obtain ⟨-, -, -, -, -, adK, adV, k1, k2, k3⟩ := cx.2.2.2.2.2.2.2.2.2.1
  have k0 := (k p l e R s m args below meth c H locs cells slots lsr Qm cx hS hR hl hd hlo hc hk)
  have e2 : px_v G (.retAddr (6 + i)) = .ref (adV i) := by show va_rf (G.2.2.2.1 (6 + i)) = _; rw [(k1 i hi).2]; rfl
  rw [List.map_cons, List.map_cons, e2]
  exact va_tb cx.1 cx.2.1 (k2.1 i hi).2.2.2 hS hj rfl d k0
/-! instanceof -/
theorem px_recv {s : State} {H : Heap} {y ci : Nat} {fs : List Value} {r : vw_C} (hK : va_K G.2.1 px_cls (px_tys G) s) (hR : px_R G h H) (he : h[y]? = some (.inr (ci, fs))) (h1 : px_cls[ci]? = some r) : ∃ cell : Cell, H[G.1 + y]? = some cell ∧ cell.vm.isStatics = false ∧ s.vm.findClass r.1 = some cell.cls := va_recv hK hR.2 h1 (px_ws_get he)
theorem wp_instY {idx y ci : Nat} {fs : List Value} {r : vw_C} (d : decode M.2.1 pc = .ok (.instanceof idx, 3)) (h1 : px_cls[ci]? = some r) (w : Cond.classLink M.1.cls idx r.1 ∈ px_tb) (he : h[y]? = some (.inr (ci, fs))) (k : px_W G D C S M (pc + 3) ls (.int 1 :: st) h Q) : px_W G D C S M pc ls (.ref y :: st) h Q := by
  intro p l e R s m args below meth c H locs cells slots lsr Qm cx hS hR hl hd hlo hc hk
  have hK := cx.2.2.2.2.2.2.2.2.1
  exact va_instS cx.1 cx.2.1 cx.2.2.2.2.2.1 (cx.2.2.2.2.2.2.1 _ w) (hK.1 ci r h1).2 (px_recv hK hR he h1) d (k p l e R s m args below meth c H locs cells slots lsr Qm cx hS hR hl hd hlo hc hk)
theorem wp_instN {idx y ci : Nat} {fs : List Value} {r : vw_C} (d : decode M.2.1 pc = .ok (.instanceof idx, 3)) (h1 : px_cls[ci]? = some r) (hno : r.1 ∈ px_nt) (w : Cond.classLink M.1.cls idx "TubeChain$Told" ∈ px_tb) (he : h[y]? = some (.inr (ci, fs))) (k : px_W G D C S M (pc + 3) ls (.int 0 :: st) h Q) : px_W G D C S M pc ls (.ref y :: st) h Q := by
  intro p l e R s m args below meth c H locs cells slots lsr Qm cx hS hR hl hd hlo hc hk
  have hK := cx.2.2.2.2.2.2.2.2.1
  obtain ⟨-, -, -, -, nt, -⟩ := cx.2.2.2.2.2.2.2.2.2.1
  exact va_instNo cx.1 cx.2.1 cx.2.2.2.2.2.1 (cx.2.2.2.2.2.2.1 _ w) (nt _ hno) (px_recv hK hR he h1) d (k p l e R s m args below meth c H locs cells slots lsr Qm cx hS hR hl hd hlo hc hk)
end PXH
