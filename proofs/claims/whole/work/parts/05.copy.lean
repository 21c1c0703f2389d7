theorem px_w_nat : Cond.native arraycopyName ∈ px_tb := px_in (List.mem_of_getElem? (i := 402) (by decide +kernel)) rfl
theorem px_w_stat : Cond.static arraycopyName ∈ px_tb := px_in (List.mem_of_getElem? (i := 401) (by decide +kernel)) rfl
theorem px_w_ini : Cond.initialized "java/lang/System" ∈ px_tb := px_in (List.mem_of_getElem? (i := 87) (by decide +kernel)) rfl
theorem px_nfw : nativeFrameWords "java/lang/System" "arraycopy" 5 ≤ 60 := by decide +kernel
theorem px_sum (G : px_G) (st : List Value) : ((st.map (px_v G)).map fun v => v.category).sum = (st.map fun v => v.category).sum := by
  rw [List.map_map]
  congr 1
  exact List.map_congr_left fun v _ => px_cat G v
theorem px_nn (z : Int32) (hz : ¬ z < 0) : z.toInt = (z.toNatClampNeg : Int) := by
  have hz0 : (0 : Int) ≤ z.toInt := by
    have := Int32.not_lt.mp hz
    simpa using Int32.le_iff_toInt_le.mp this
  show z.toInt = ((z.toInt.toNat : Nat) : Int)
  omega
section PXC
variable {G : px_G} {D C S : Nat} {M : px_M} {pc : Nat} {ls : px_L} {st : List Value} {h h' : px_H} {Q : Option Value → px_H → Prop}
theorem wp_copyi {idx p0 p1 n0 n1 : Nat} {f g : Nat → Int32} {sp dp n : Int32} (d : decode M.2.1 pc = .ok (.invokestatic idx, 3)) (w : Cond.methodLink M.1.cls idx arraycopyName ∈ px_tb) (he0 : h[p0]? = some (.inl (.int, n0, .inl f))) (he1 : h[p1]? = some (.inl (.int, n1, .inl g))) (h1 : ¬ sp < 0) (h2 : ¬ dp < 0) (h3 : ¬ n < 0) (h4 : sp.toNatClampNeg + n.toNatClampNeg ≤ n0) (h5 : dp.toNatClampNeg + n.toNatClampNeg ≤ n1) (hD : 1 ≤ D) (hst : (st.map fun v => v.category).sum ≤ 8) (hh : h.set p1 (.inl (.int, n1, .inl (va_cpy f g sp.toNatClampNeg dp.toNatClampNeg n.toNatClampNeg))) = h') (k : px_W G D C S M (pc + 3) ls st h' Q) : px_W G D C S M pc ls (.int n :: .int dp :: .ref p1 :: .int sp :: .ref p0 :: st) h Q := by
  intro p l e R s m args below meth c H locs cells slots lsr Qm cx hS hR hl hd hlo hc hk
  subst hh
  have hts := cx.2.2.2.2.2.2.1
  have hK := cx.2.2.2.2.2.2.2.2.1
  have hnf := px_nfw
  have hst' : ((st.map (px_v G)).map fun v => v.category).sum ≤ 8 := by rw [px_sum]; exact hst
  intro T hT X
  have hc0 : H[G.1 + p0]? = some (vp_cell (G.2.2.1 .int) (n0, .inl f)) := hR.at he0
  have hc1 : H[G.1 + p1]? = some (vp_cell (G.2.2.1 .int) (n1, .inl g)) := hR.at he1
  obtain ⟨-, k0, hk0, cm0, hkk0⟩ := (hK.2 0 _ rfl).1 n0 (fun j => .int (f j))
  obtain ⟨-, k1, hk1, cm1, hkk1⟩ := (hK.2 0 _ rfl).1 n1 (fun j => .int (g j))
  obtain ⟨vm', X', step⟩ := X.arraycopy cx.1 cx.2.2.2.2.2.1 (hts _ w) (hts _ px_w_nat) (hts _ px_w_stat) (hts _ px_w_ini) (src := G.1 + p0) (dst := G.1 + p1) (cs := vp_cell (G.2.2.1 .int) (n0, .inl f)) (cd := vp_cell (G.2.2.1 .int) (n1, .inl g)) (srcPos := sp) (destPos := dp) (n := n) (by rw [hT]; exact hc0) (by rw [hT]; exact hc1)
    (fun _ h => by cases h) (fun _ h => by cases h) (fun h => by cases h) (fun h => by cases h) hk0 hk1 hkk0 hkk1 rfl h1 h2 h3
    (by rw [px_nn sp h1, px_nn n h3]; show ¬ _ > ((arrV (G.2.2.1 .int) n0 (fun j => .int (f j))).slots.size : Int); rw [arrV_size]; omega)
    (by rw [px_nn dp h2, px_nn n h3]; show ¬ _ > ((arrV (G.2.2.1 .int) n1 (fun j => .int (g j))).slots.size : Int); rw [arrV_size]; omega)
    (fun vm₁ _ i hi => by
      have e : (vp_cell (G.2.2.1 .int) (n0, .inl f)).slots.getD (sp.toNatClampNeg + i) .null = .int (f (sp.toNatClampNeg + i)) := by
        show (arrV (G.2.2.1 .int) n0 (fun j => .int (f j))).slots.getD _ _ = _
        rw [Array.getD_eq_getD_getElem?, arrV_read _ _ (by omega)]
        rfl
      refine ⟨?_, ?_⟩
      · rw [e]
        rfl
      · rw [e]
        exact trivial)
    (g := F0 m pc lsr (.int n :: .int dp :: .ref (G.1 + p1) :: .int sp :: .ref (G.1 + p0) :: st.map (px_v G))) rfl (by rw [cx.2.2.1]; exact hl.1) (rest := st.map (px_v G)) rfl (by rw [cx.2.1]; exact d) (by omega) (by show 2 * 0 + _ + _ ≤ _; omega)
  have e1 : copied (vp_cell (G.2.2.1 .int) (n0, .inl f)) (vp_cell (G.2.2.1 .int) (n1, .inl g)) sp dp n = vp_cell (G.2.2.1 .int) (n1, .inl (va_cpy f g sp.toNatClampNeg dp.toNatClampNeg n.toNatClampNeg)) := va_copied (fun z => .int z) (G.2.2.1 .int) (G.2.2.1 .int) f g h4
  rw [e1] at X' step
  have hlt : G.1 + p1 < H.size := (Array.getElem?_eq_some_iff.mp hc1).1
  have hheap : ((T.setVm vm').setCell (G.1 + p1) (vp_cell (G.2.2.1 .int) (n1, .inl (va_cpy f g sp.toNatClampNeg dp.toNatClampNeg n.toNatClampNeg)))).heap = H.setIfInBounds (G.1 + p1) (vp_cell (G.2.2.1 .int) (n1, .inl (va_cpy f g sp.toNatClampNeg dp.toNatClampNeg n.toNatClampNeg))) := by rw [← hT]; rfl
  have oq : ∀ q : Nat, q ≠ G.1 + p1 → (H.setIfInBounds (G.1 + p1) (vp_cell (G.2.2.1 .int) (n1, .inl (va_cpy f g sp.toNatClampNeg dp.toNatClampNeg n.toNatClampNeg))))[q]? = H[q]? := fun q hq => by simp [Array.getElem?_setIfInBounds, Ne.symm hq]
  obtain ⟨t, a1, b1⟩ := k p l e R s m args below meth c (H.setIfInBounds (G.1 + p1) (vp_cell (G.2.2.1 .int) (n1, .inl (va_cpy f g sp.toNatClampNeg dp.toNatClampNeg n.toNatClampNeg)))) _ cells slots lsr Qm cx ⟨by simp; exact hS.1, fun q g1 g2 => by
      rw [oq q (fun e => g2 (by rw [e]; exact Nat.le_add_right _ _))]
      exact hS.2.1 q g1 g2, fun q hq => by
      rcases List.mem_append.mp hq with h | h
      · exact hS.2.2 q h
      · obtain ⟨z, -, hz⟩ := List.mem_map.mp h
        rw [← hz]
        exact Nat.le_add_right _ _⟩ (hR.set he1 (by simp) (show (H.setIfInBounds (G.1 + p1) _)[G.1 + p1]? = some (vp_cell (G.2.2.1 .int) (n1, .inl (va_cpy f g sp.toNatClampNeg dp.toNatClampNeg n.toNatClampNeg))) by simp [Array.getElem?_setIfInBounds, hlt]) oq) hl hd hlo hc hk _ hheap X'
  exact ⟨t, step t a1, b1⟩
theorem wp_copyl {idx p0 p1 n0 n1 : Nat} {f g : Nat → Int64} {sp dp n : Int32} (d : decode M.2.1 pc = .ok (.invokestatic idx, 3)) (w : Cond.methodLink M.1.cls idx arraycopyName ∈ px_tb) (he0 : h[p0]? = some (.inl (.long, n0, .inr (.inl f)))) (he1 : h[p1]? = some (.inl (.long, n1, .inr (.inl g)))) (h1 : ¬ sp < 0) (h2 : ¬ dp < 0) (h3 : ¬ n < 0) (h4 : sp.toNatClampNeg + n.toNatClampNeg ≤ n0) (h5 : dp.toNatClampNeg + n.toNatClampNeg ≤ n1) (hD : 1 ≤ D) (hst : (st.map fun v => v.category).sum ≤ 8) (hh : h.set p1 (.inl (.long, n1, .inr (.inl (va_cpy f g sp.toNatClampNeg dp.toNatClampNeg n.toNatClampNeg)))) = h') (k : px_W G D C S M (pc + 3) ls st h' Q) : px_W G D C S M pc ls (.int n :: .int dp :: .ref p1 :: .int sp :: .ref p0 :: st) h Q := by
  intro p l e R s m args below meth c H locs cells slots lsr Qm cx hS hR hl hd hlo hc hk
  subst hh
  have hts := cx.2.2.2.2.2.2.1
  have hK := cx.2.2.2.2.2.2.2.2.1
  have hnf := px_nfw
  have hst' : ((st.map (px_v G)).map fun v => v.category).sum ≤ 8 := by rw [px_sum]; exact hst
  intro T hT X
  have hc0 : H[G.1 + p0]? = some (vp_cell (G.2.2.1 .long) (n0, .inr (.inl f))) := hR.at he0
  have hc1 : H[G.1 + p1]? = some (vp_cell (G.2.2.1 .long) (n1, .inr (.inl g))) := hR.at he1
  obtain ⟨-, k0, hk0, cm0, hkk0⟩ := (hK.2 1 _ rfl).1 n0 (fun j => .long (f j))
  obtain ⟨-, k1, hk1, cm1, hkk1⟩ := (hK.2 1 _ rfl).1 n1 (fun j => .long (g j))
  obtain ⟨vm', X', step⟩ := X.arraycopy cx.1 cx.2.2.2.2.2.1 (hts _ w) (hts _ px_w_nat) (hts _ px_w_stat) (hts _ px_w_ini) (src := G.1 + p0) (dst := G.1 + p1) (cs := vp_cell (G.2.2.1 .long) (n0, .inr (.inl f))) (cd := vp_cell (G.2.2.1 .long) (n1, .inr (.inl g))) (srcPos := sp) (destPos := dp) (n := n) (by rw [hT]; exact hc0) (by rw [hT]; exact hc1)
    (fun _ h => by cases h) (fun _ h => by cases h) (fun h => by cases h) (fun h => by cases h) hk0 hk1 hkk0 hkk1 rfl h1 h2 h3
    (by rw [px_nn sp h1, px_nn n h3]; show ¬ _ > ((arrV (G.2.2.1 .long) n0 (fun j => .long (f j))).slots.size : Int); rw [arrV_size]; omega)
    (by rw [px_nn dp h2, px_nn n h3]; show ¬ _ > ((arrV (G.2.2.1 .long) n1 (fun j => .long (g j))).slots.size : Int); rw [arrV_size]; omega)
    (fun vm₁ _ i hi => by
      have e : (vp_cell (G.2.2.1 .long) (n0, .inr (.inl f))).slots.getD (sp.toNatClampNeg + i) .null = .long (f (sp.toNatClampNeg + i)) := by
        show (arrV (G.2.2.1 .long) n0 (fun j => .long (f j))).slots.getD _ _ = _
        rw [Array.getD_eq_getD_getElem?, arrV_read _ _ (by omega)]
        rfl
      refine ⟨?_, ?_⟩
      · rw [e]
        rfl
      · rw [e]
        exact trivial)
    (g := F0 m pc lsr (.int n :: .int dp :: .ref (G.1 + p1) :: .int sp :: .ref (G.1 + p0) :: st.map (px_v G))) rfl (by rw [cx.2.2.1]; exact hl.1) (rest := st.map (px_v G)) rfl (by rw [cx.2.1]; exact d) (by omega) (by show 2 * 0 + _ + _ ≤ _; omega)
  have e1 : copied (vp_cell (G.2.2.1 .long) (n0, .inr (.inl f))) (vp_cell (G.2.2.1 .long) (n1, .inr (.inl g))) sp dp n = vp_cell (G.2.2.1 .long) (n1, .inr (.inl (va_cpy f g sp.toNatClampNeg dp.toNatClampNeg n.toNatClampNeg))) := va_copied (fun z => .long z) (G.2.2.1 .long) (G.2.2.1 .long) f g h4
  rw [e1] at X' step
  have hlt : G.1 + p1 < H.size := (Array.getElem?_eq_some_iff.mp hc1).1
  have hheap : ((T.setVm vm').setCell (G.1 + p1) (vp_cell (G.2.2.1 .long) (n1, .inr (.inl (va_cpy f g sp.toNatClampNeg dp.toNatClampNeg n.toNatClampNeg))))).heap = H.setIfInBounds (G.1 + p1) (vp_cell (G.2.2.1 .long) (n1, .inr (.inl (va_cpy f g sp.toNatClampNeg dp.toNatClampNeg n.toNatClampNeg)))) := by rw [← hT]; rfl
  have oq : ∀ q : Nat, q ≠ G.1 + p1 → (H.setIfInBounds (G.1 + p1) (vp_cell (G.2.2.1 .long) (n1, .inr (.inl (va_cpy f g sp.toNatClampNeg dp.toNatClampNeg n.toNatClampNeg)))))[q]? = H[q]? := fun q hq => by simp [Array.getElem?_setIfInBounds, Ne.symm hq]
  obtain ⟨t, a1, b1⟩ := k p l e R s m args below meth c (H.setIfInBounds (G.1 + p1) (vp_cell (G.2.2.1 .long) (n1, .inr (.inl (va_cpy f g sp.toNatClampNeg dp.toNatClampNeg n.toNatClampNeg))))) _ cells slots lsr Qm cx ⟨by simp; exact hS.1, fun q g1 g2 => by
      rw [oq q (fun e => g2 (by rw [e]; exact Nat.le_add_right _ _))]
      exact hS.2.1 q g1 g2, fun q hq => by
      rcases List.mem_append.mp hq with h | h
      · exact hS.2.2 q h
      · obtain ⟨z, -, hz⟩ := List.mem_map.mp h
        rw [← hz]
        exact Nat.le_add_right _ _⟩ (hR.set he1 (by simp) (show (H.setIfInBounds (G.1 + p1) _)[G.1 + p1]? = some (vp_cell (G.2.2.1 .long) (n1, .inr (.inl (va_cpy f g sp.toNatClampNeg dp.toNatClampNeg n.toNatClampNeg)))) by simp [Array.getElem?_setIfInBounds, hlt]) oq) hl hd hlo hc hk _ hheap X'
  exact ⟨t, step t a1, b1⟩
theorem wp_copyq {idx p0 p1 n0 n1 : Nat} {t0 : Nat} {E : String} {f g : Nat → Option Nat} {sp dp n : Int32} (d : decode M.2.1 pc = .ok (.invokestatic idx, 3)) (w : Cond.methodLink M.1.cls idx arraycopyName ∈ px_tb) (he0 : h[p0]? = some (.inl ((.object E), n0, .inr (.inr (.inr (.inr f)))))) (he1 : h[p1]? = some (.inl ((.object E), n1, .inr (.inr (.inr (.inr g)))))) (h1 : ¬ sp < 0) (h2 : ¬ dp < 0) (h3 : ¬ n < 0) (h4 : sp.toNatClampNeg + n.toNatClampNeg ≤ n0) (h5 : dp.toNatClampNeg + n.toNatClampNeg ≤ n1) (ht : px_rt t0 E) (hel : ∀ i : Nat, i < n.toNatClampNeg → ∀ y : Nat, f (sp.toNatClampNeg + i) = some y → ∃ ci fs, h[y]? = some (.inr (ci, fs)) ∧ px_sub ci E) (hD : 1 ≤ D) (hst : (st.map fun v => v.category).sum ≤ 8) (hh : h.set p1 (.inl ((.object E), n1, .inr (.inr (.inr (.inr (va_cpy f g sp.toNatClampNeg dp.toNatClampNeg n.toNatClampNeg)))))) = h') (k : px_W G D C S M (pc + 3) ls st h' Q) : px_W G D C S M pc ls (.int n :: .int dp :: .ref p1 :: .int sp :: .ref p0 :: st) h Q := by
  intro p l e R s m args below meth c H locs cells slots lsr Qm cx hS hR hl hd hlo hc hk
  subst hh
  have hts := cx.2.2.2.2.2.2.1
  have hK := cx.2.2.2.2.2.2.2.2.1
  have hnf := px_nfw
  have hst' : ((st.map (px_v G)).map fun v => v.category).sum ≤ 8 := by rw [px_sum]; exact hst
  have hcp : (fun j => ((va_cpy f g sp.toNatClampNeg dp.toNatClampNeg n.toNatClampNeg) j).map (fun k => G.1 + k)) = (va_cpy (fun j => (f j).map (fun k => G.1 + k)) (fun j => (g j).map (fun k => G.1 + k)) sp.toNatClampNeg dp.toNatClampNeg n.toNatClampNeg) := by
    funext j
    simp only [va_cpy]
    split <;> rfl
  intro T hT X
  have hc0 : H[G.1 + p0]? = some (vp_cell (G.2.2.1 (.object E)) (n0, .inr (.inr (.inr (.inr (fun j => (f j).map (fun k => G.1 + k))))))) := hR.at he0
  have hc1 : H[G.1 + p1]? = some (vp_cell (G.2.2.1 (.object E)) (n1, .inr (.inr (.inr (.inr (fun j => (g j).map (fun k => G.1 + k))))))) := hR.at he1
  obtain ⟨-, k0, hk0, cm0, hkk0⟩ := (hK.2 t0 _ (ht G)).1 n0 (fun j => va_rf ((fun j => (f j).map (fun k => G.1 + k)) j))
  obtain ⟨-, k1, hk1, cm1, hkk1⟩ := (hK.2 t0 _ (ht G)).1 n1 (fun j => va_rf ((fun j => (g j).map (fun k => G.1 + k)) j))
  obtain ⟨vm', X', step⟩ := X.arraycopy cx.1 cx.2.2.2.2.2.1 (hts _ w) (hts _ px_w_nat) (hts _ px_w_stat) (hts _ px_w_ini) (src := G.1 + p0) (dst := G.1 + p1) (cs := vp_cell (G.2.2.1 (.object E)) (n0, .inr (.inr (.inr (.inr (fun j => (f j).map (fun k => G.1 + k))))))) (cd := vp_cell (G.2.2.1 (.object E)) (n1, .inr (.inr (.inr (.inr (fun j => (g j).map (fun k => G.1 + k))))))) (srcPos := sp) (destPos := dp) (n := n) (by rw [hT]; exact hc0) (by rw [hT]; exact hc1)
    (fun _ h => by cases h) (fun _ h => by cases h) (fun h => by cases h) (fun h => by cases h) hk0 hk1 hkk0 hkk1 rfl h1 h2 h3
    (by rw [px_nn sp h1, px_nn n h3]; show ¬ _ > ((arrV (G.2.2.1 (.object E)) n0 (fun j => va_rf ((fun j => (f j).map (fun k => G.1 + k)) j))).slots.size : Int); rw [arrV_size]; omega)
    (by rw [px_nn dp h2, px_nn n h3]; show ¬ _ > ((arrV (G.2.2.1 (.object E)) n1 (fun j => va_rf ((fun j => (g j).map (fun k => G.1 + k)) j))).slots.size : Int); rw [arrV_size]; omega)
    (fun vm₁ hal i hi => by
      have e : (vp_cell (G.2.2.1 (.object E)) (n0, .inr (.inr (.inr (.inr (fun j => (f j).map (fun k => G.1 + k))))))).slots.getD (sp.toNatClampNeg + i) .null = va_rf ((f (sp.toNatClampNeg + i)).map (fun k => G.1 + k)) := by
        show (arrV (G.2.2.1 (.object E)) n0 (fun j => va_rf ((fun j => (f j).map (fun k => G.1 + k)) j))).slots.getD _ _ = _
        rw [Array.getD_eq_getD_getElem?, arrV_read _ _ (by omega)]
        rfl
      rw [e]
      cases hy : f (sp.toNatClampNeg + i) with
      | none => exact ⟨rfl, trivial⟩
      | some y =>
        obtain ⟨ci, fs, e1, e2⟩ := hel i hi y hy
        obtain ⟨cellV, g1, g2, ⟨kC, hkC⟩, hasg⟩ := px_any hts hK hR e1 e2
        obtain ⟨kA, comp, r1, r2, r3, -⟩ := (hK.2 t0 _ (ht G)).2
        cases hk1.symm.trans r1
        cases hkk1.symm.trans r2
        obtain ⟨kE, hkE, -⟩ := Vm.findClass_spec r3
        obtain ⟨kC', hkC', -⟩ := hal.2.2 _ _ hkC
        obtain ⟨kE', hkE', -⟩ := hal.2.2 _ _ hkE
        refine ⟨rfl, cellV, (show T.heap[G.1 + y]? = some cellV by rw [hT]; exact g1), (fun q h => by rw [h] at g2; cases g2), ⟨kC', hkC'⟩, ?_, ?_⟩
        · exact ⟨kE', hkE'⟩
        · show vm₁.assignable _ _ = true
          rw [hal.assignable]
          exact hasg _ r3)
    (g := F0 m pc lsr (.int n :: .int dp :: .ref (G.1 + p1) :: .int sp :: .ref (G.1 + p0) :: st.map (px_v G))) rfl (by rw [cx.2.2.1]; exact hl.1) (rest := st.map (px_v G)) rfl (by rw [cx.2.1]; exact d) (by omega) (by show 2 * 0 + _ + _ ≤ _; omega)
  have e1 : copied (vp_cell (G.2.2.1 (.object E)) (n0, .inr (.inr (.inr (.inr (fun j => (f j).map (fun k => G.1 + k))))))) (vp_cell (G.2.2.1 (.object E)) (n1, .inr (.inr (.inr (.inr (fun j => (g j).map (fun k => G.1 + k))))))) sp dp n = vp_cell (G.2.2.1 (.object E)) (n1, .inr (.inr (.inr (.inr (va_cpy (fun j => (f j).map (fun k => G.1 + k)) (fun j => (g j).map (fun k => G.1 + k)) sp.toNatClampNeg dp.toNatClampNeg n.toNatClampNeg))))) := va_copied (fun z => va_rf z) (G.2.2.1 (.object E)) (G.2.2.1 (.object E)) (fun j => (f j).map (fun k => G.1 + k)) (fun j => (g j).map (fun k => G.1 + k)) h4
  rw [e1] at X' step
  have hlt : G.1 + p1 < H.size := (Array.getElem?_eq_some_iff.mp hc1).1
  have hheap : ((T.setVm vm').setCell (G.1 + p1) (vp_cell (G.2.2.1 (.object E)) (n1, .inr (.inr (.inr (.inr (va_cpy (fun j => (f j).map (fun k => G.1 + k)) (fun j => (g j).map (fun k => G.1 + k)) sp.toNatClampNeg dp.toNatClampNeg n.toNatClampNeg))))))).heap = H.setIfInBounds (G.1 + p1) (vp_cell (G.2.2.1 (.object E)) (n1, .inr (.inr (.inr (.inr (va_cpy (fun j => (f j).map (fun k => G.1 + k)) (fun j => (g j).map (fun k => G.1 + k)) sp.toNatClampNeg dp.toNatClampNeg n.toNatClampNeg)))))) := by rw [← hT]; rfl
  have oq : ∀ q : Nat, q ≠ G.1 + p1 → (H.setIfInBounds (G.1 + p1) (vp_cell (G.2.2.1 (.object E)) (n1, .inr (.inr (.inr (.inr (va_cpy (fun j => (f j).map (fun k => G.1 + k)) (fun j => (g j).map (fun k => G.1 + k)) sp.toNatClampNeg dp.toNatClampNeg n.toNatClampNeg)))))))[q]? = H[q]? := fun q hq => by simp [Array.getElem?_setIfInBounds, Ne.symm hq]
  obtain ⟨t, a1, b1⟩ := k p l e R s m args below meth c (H.setIfInBounds (G.1 + p1) (vp_cell (G.2.2.1 (.object E)) (n1, .inr (.inr (.inr (.inr (va_cpy (fun j => (f j).map (fun k => G.1 + k)) (fun j => (g j).map (fun k => G.1 + k)) sp.toNatClampNeg dp.toNatClampNeg n.toNatClampNeg))))))) _ cells slots lsr Qm cx ⟨by simp; exact hS.1, fun q g1 g2 => by
      rw [oq q (fun e => g2 (by rw [e]; exact Nat.le_add_right _ _))]
      exact hS.2.1 q g1 g2, fun q hq => by
      rcases List.mem_append.mp hq with h | h
      · exact hS.2.2 q h
      · obtain ⟨z, -, hz⟩ := List.mem_map.mp h
        rw [← hz]
        exact Nat.le_add_right _ _⟩ (hR.set he1 (by simp) (show (H.setIfInBounds (G.1 + p1) _)[G.1 + p1]? = some (vp_cell (G.2.2.1 (.object E)) (n1, .inr (.inr (.inr (.inr (fun j => ((va_cpy f g sp.toNatClampNeg dp.toNatClampNeg n.toNatClampNeg) j).map (fun k => G.1 + k))))))) by rw [hcp]; simp [Array.getElem?_setIfInBounds, hlt]) oq) hl hd hlo hc hk _ hheap X'
  exact ⟨t, step t a1, b1⟩
end PXC
