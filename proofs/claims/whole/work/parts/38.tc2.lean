theorem tt_0 {K : tc_K} {MZ : px_H} {r : (Nat → Int32) × px_H} : (HT K MZ r)[0]? = some (.inr (0, TF (K.1 5))) := ht_lo rfl
theorem tt_23 {K : tc_K} {MZ : px_H} {r : (Nat → Int32) × px_H} : (HT K MZ r)[23]? = some (.inr (2, RF (K.1 4))) := ht_lo rfl
theorem sp_one_max {y : Int32} : (if 1 < y then y else 1) = sp_one y := by
  unfold sp_one
  by_cases h : 1 < y
  · rw [if_pos h, if_neg (Int32.not_lt.mpr (Int32.le_of_lt h))]
  · rw [if_neg h]
    by_cases h2 : y < 1
    · rw [if_pos h2]
    · rw [if_neg h2]
      exact Int32.le_antisymm (Int32.not_lt.mp h2) (Int32.not_lt.mp h)
theorem gk_Sc_103 : ∀ k, k < 7 → px_GR "TubeChain$Scaffold" 103 (5 + k) 0 := by
  intro k hk
  match k, hk with
  | 0, _ => exact gf_Sc_103_5
  | 1, _ => exact gf_Sc_103_6
  | 2, _ => exact gf_Sc_103_7
  | 3, _ => exact gf_Sc_103_8
  | 4, _ => exact gf_Sc_103_9
  | 5, _ => exact gf_Sc_103_10
  | 6, _ => exact gf_Sc_103_11
theorem gk_Sc_115 : ∀ k, k < 7 → px_GR "TubeChain$Scaffold" 115 (5 + k) 1 := by
  intro k hk
  match k, hk with
  | 0, _ => exact gf_Sc_115_5
  | 1, _ => exact gf_Sc_115_6
  | 2, _ => exact gf_Sc_115_7
  | 3, _ => exact gf_Sc_115_8
  | 4, _ => exact gf_Sc_115_9
  | 5, _ => exact gf_Sc_115_10
  | 6, _ => exact gf_Sc_115_11
theorem gk_TC_109 : ∀ k, k < 7 → px_GR "TubeChain" 109 (5 + k) 1 := by
  intro k hk
  match k, hk with
  | 0, _ => exact gf_TC_109_5
  | 1, _ => exact gf_TC_109_6
  | 2, _ => exact gf_TC_109_7
  | 3, _ => exact gf_TC_109_8
  | 4, _ => exact gf_TC_109_9
  | 5, _ => exact gf_TC_109_10
  | 6, _ => exact gf_TC_109_11
section TCM
variable {G : px_G} {D : Nat} {h : px_H} {Q : Option Value → px_H → Prop}
set_option maxRecDepth 4000 in
theorem c_Ma_kind {m : Nat} (hD : 0 ≤ D) (k : Q (some (.int 0)) h) : px_W G D 0 0 m_Ma_kind 0 (px_ent 1 [.ref m]) [] h Q := by
  show px_W _ _ _ _ _ _ [some (.ref m)] [] _ _
  refine wp_iconst (v := 0) d_Ma_kind_0 rfl ?_
  refine wp_ireturn d_Ma_kind_1 rfl rfl ?_
  exact k
set_option maxRecDepth 4000 in
theorem c_St_kind {m : Nat} (hD : 0 ≤ D) (k : Q (some (.int 1)) h) : px_W G D 0 0 m_St_kind 0 (px_ent 1 [.ref m]) [] h Q := by
  show px_W _ _ _ _ _ _ [some (.ref m)] [] _ _
  refine wp_iconst (v := 1) d_St_kind_0 rfl ?_
  refine wp_ireturn d_St_kind_1 rfl rfl ?_
  exact k
set_option maxRecDepth 4000 in
theorem c_Gl_kind {m : Nat} (hD : 0 ≤ D) (k : Q (some (.int 2)) h) : px_W G D 0 0 m_Gl_kind 0 (px_ent 1 [.ref m]) [] h Q := by
  show px_W _ _ _ _ _ _ [some (.ref m)] [] _ _
  refine wp_iconst (v := 2) d_Gl_kind_0 rfl ?_
  refine wp_ireturn d_Gl_kind_1 rfl rfl ?_
  exact k
set_option maxRecDepth 4000 in
theorem c_Ti_kind {m : Nat} (hD : 0 ≤ D) (k : Q (some (.int 3)) h) : px_W G D 0 0 m_Ti_kind 0 (px_ent 1 [.ref m]) [] h Q := by
  show px_W _ _ _ _ _ _ [some (.ref m)] [] _ _
  refine wp_iconst (v := 3) d_Ti_kind_0 rfl ?_
  refine wp_ireturn d_Ti_kind_1 rfl rfl ?_
  exact k
set_option maxRecDepth 4000 in
theorem c_Ca_kind {m : Nat} (hD : 0 ≤ D) (k : Q (some (.int 4)) h) : px_W G D 0 0 m_Ca_kind 0 (px_ent 1 [.ref m]) [] h Q := by
  show px_W _ _ _ _ _ _ [some (.ref m)] [] _ _
  refine wp_iconst (v := 4) d_Ca_kind_0 rfl ?_
  refine wp_ireturn d_Ca_kind_1 rfl rfl ?_
  exact k
set_option maxRecDepth 4000 in
theorem c_Sl_kind {m : Nat} (hD : 0 ≤ D) (k : Q (some (.int 5)) h) : px_W G D 0 0 m_Sl_kind 0 (px_ent 1 [.ref m]) [] h Q := by
  show px_W _ _ _ _ _ _ [some (.ref m)] [] _ _
  refine wp_iconst (v := 5) d_Sl_kind_0 rfl ?_
  refine wp_ireturn d_Sl_kind_1 rfl rfl ?_
  exact k
set_option maxRecDepth 4000 in
theorem c_To_kind {m : Nat} (hD : 0 ≤ D) (k : Q (some (.int 6)) h) : px_W G D 0 0 m_To_kind 0 (px_ent 1 [.ref m]) [] h Q := by
  show px_W _ _ _ _ _ _ [some (.ref m)] [] _ _
  refine wp_bipush (v := 6) d_To_kind_0 (by decide) ?_
  refine wp_ireturn d_To_kind_2 rfl rfl ?_
  exact k
set_option maxRecDepth 4000 in
theorem c_Ma_holds {m : Nat} {n hh rw nn v : Int32} (hD : 1 ≤ D) (he : h[m]? = some (.inr (5, [.int nn, .int v]))) (k : Q (some (.int (n))) h) : px_W G D 0 0 m_Ma_holds 0 (px_ent 4 [.ref m, .int n, .int hh, .int rw]) [] h Q := by
  show px_W _ _ _ _ _ _ [some (.ref m), some (.int n), some (.int hh), some (.int rw)] [] _ _
  refine wp_iload_n d_Ma_holds_0 rfl rfl ?_
  refine wp_ireturn d_Ma_holds_1 rfl rfl ?_
  exact k
set_option maxRecDepth 4000 in
theorem c_St_holds6 {m : Nat} {n hh rw nn v : Int32} (hD : 1 ≤ D) (he : h[m]? = some (.inr (6, [.int nn, .int v]))) (k : Q (some (.int (sp_strong v n))) h) : px_W G D 0 0 m_St_holds 0 (px_ent 4 [.ref m, .int n, .int hh, .int rw]) [] h Q := by
  show px_W _ _ _ _ _ _ [some (.ref m), some (.int n), some (.int hh), some (.int rw)] [] _ _
  refine wp_iconst (v := 1) d_St_holds_0 rfl ?_
  refine wp_iload_n d_St_holds_1 rfl rfl ?_
  refine wp_aload_n d_St_holds_2 rfl rfl rfl ?_
  refine wp_getf d_St_holds_3 gf_St_7_6 he rfl ?_
  refine wp_iconst (v := 2) d_St_holds_6 rfl ?_
  refine wp_idiv d_St_holds_7 (by decide) ?_
  refine wp_isub d_St_holds_8 ?_
  refine wp_max d_St_holds_9 w_474 (by decide) (by omega) ?_
  refine wp_ireturn d_St_holds_12 rfl rfl ?_
  rw [sp_one_max]
  exact k
set_option maxRecDepth 4000 in
theorem c_St_holds9 {m : Nat} {n hh rw nn v : Int32} (hD : 1 ≤ D) (he : h[m]? = some (.inr (9, [.int nn, .int v]))) (k : Q (some (.int (sp_strong v n))) h) : px_W G D 0 0 m_St_holds 0 (px_ent 4 [.ref m, .int n, .int hh, .int rw]) [] h Q := by
  show px_W _ _ _ _ _ _ [some (.ref m), some (.int n), some (.int hh), some (.int rw)] [] _ _
  refine wp_iconst (v := 1) d_St_holds_0 rfl ?_
  refine wp_iload_n d_St_holds_1 rfl rfl ?_
  refine wp_aload_n d_St_holds_2 rfl rfl rfl ?_
  refine wp_getf d_St_holds_3 gf_St_7_9 he rfl ?_
  refine wp_iconst (v := 2) d_St_holds_6 rfl ?_
  refine wp_idiv d_St_holds_7 (by decide) ?_
  refine wp_isub d_St_holds_8 ?_
  refine wp_max d_St_holds_9 w_474 (by decide) (by omega) ?_
  refine wp_ireturn d_St_holds_12 rfl rfl ?_
  rw [sp_one_max]
  exact k
set_option maxRecDepth 4000 in
theorem c_Gl_holds7 {m : Nat} {n hh rw nn v : Int32} (hD : 1 ≤ D) (he : h[m]? = some (.inr (7, [.int nn, .int v]))) (k : Q (some (.int (n + 2))) h) : px_W G D 0 0 m_Gl_holds 0 (px_ent 4 [.ref m, .int n, .int hh, .int rw]) [] h Q := by
  show px_W _ _ _ _ _ _ [some (.ref m), some (.int n), some (.int hh), some (.int rw)] [] _ _
  refine wp_iload_n d_Gl_holds_0 rfl rfl ?_
  refine wp_iconst (v := 2) d_Gl_holds_1 rfl ?_
  refine wp_iadd d_Gl_holds_2 ?_
  refine wp_ireturn d_Gl_holds_3 rfl rfl ?_
  exact k
set_option maxRecDepth 4000 in
theorem c_Gl_holds10 {m : Nat} {n hh rw nn v : Int32} (hD : 1 ≤ D) (he : h[m]? = some (.inr (10, [.int nn, .int v]))) (k : Q (some (.int (n + 2))) h) : px_W G D 0 0 m_Gl_holds 0 (px_ent 4 [.ref m, .int n, .int hh, .int rw]) [] h Q := by
  show px_W _ _ _ _ _ _ [some (.ref m), some (.int n), some (.int hh), some (.int rw)] [] _ _
  refine wp_iload_n d_Gl_holds_0 rfl rfl ?_
  refine wp_iconst (v := 2) d_Gl_holds_1 rfl ?_
  refine wp_iadd d_Gl_holds_2 ?_
  refine wp_ireturn d_Gl_holds_3 rfl rfl ?_
  exact k
set_option maxRecDepth 4000 in
theorem c_Ti_holds8 {m : Nat} {n hh rw nn v : Int32} (hD : 1 ≤ D) (he : h[m]? = some (.inr (8, [.int nn, .int v]))) (k : Q (some (.int (n + hh / 8))) h) : px_W G D 0 0 m_Ti_holds 0 (px_ent 4 [.ref m, .int n, .int hh, .int rw]) [] h Q := by
  show px_W _ _ _ _ _ _ [some (.ref m), some (.int n), some (.int hh), some (.int rw)] [] _ _
  refine wp_iload_n d_Ti_holds_0 rfl rfl ?_
  refine wp_iload_n d_Ti_holds_1 rfl rfl ?_
  refine wp_bipush (v := 8) d_Ti_holds_2 (by decide) ?_
  refine wp_idiv d_Ti_holds_4 (by decide) ?_
  refine wp_iadd d_Ti_holds_5 ?_
  refine wp_ireturn d_Ti_holds_6 rfl rfl ?_
  exact k
set_option maxRecDepth 4000 in
theorem c_Ti_holds11 {m : Nat} {n hh rw nn v : Int32} (hD : 1 ≤ D) (he : h[m]? = some (.inr (11, [.int nn, .int v]))) (k : Q (some (.int (n + hh / 8))) h) : px_W G D 0 0 m_Ti_holds 0 (px_ent 4 [.ref m, .int n, .int hh, .int rw]) [] h Q := by
  show px_W _ _ _ _ _ _ [some (.ref m), some (.int n), some (.int hh), some (.int rw)] [] _ _
  refine wp_iload_n d_Ti_holds_0 rfl rfl ?_
  refine wp_iload_n d_Ti_holds_1 rfl rfl ?_
  refine wp_bipush (v := 8) d_Ti_holds_2 (by decide) ?_
  refine wp_idiv d_Ti_holds_4 (by decide) ?_
  refine wp_iadd d_Ti_holds_5 ?_
  refine wp_ireturn d_Ti_holds_6 rfl rfl ?_
  exact k
set_option maxRecDepth 4000 in
theorem c_Ca_holds {m : Nat} {n hh rw nn v : Int32} (hD : 2 ≤ D) (he : h[m]? = some (.inr (9, [.int nn, .int v]))) (k : Q (some (.int (sp_one (sp_strong v n / 2)))) h) : px_W G D 0 0 m_Ca_holds 0 (px_ent 4 [.ref m, .int n, .int hh, .int rw]) [] h Q := by
  show px_W _ _ _ _ _ _ [some (.ref m), some (.int n), some (.int hh), some (.int rw)] [] _ _
  refine wp_iconst (v := 1) d_Ca_holds_0 rfl ?_
  refine wp_aload_n d_Ca_holds_1 rfl rfl rfl ?_
  refine wp_iload_n d_Ca_holds_2 rfl rfl ?_
  refine wp_iload_n d_Ca_holds_3 rfl rfl ?_
  refine wp_iload_n d_Ca_holds_4 rfl rfl ?_
  refine wp_callSU (M' := m_St_holds) (as := [_, _, _]) (D' := D - 1) (C1 := 0) (C2 := 0) (S1 := 0) (S2 := 0) (r := (R_9, T_9, 2)) d_Ca_holds_5 rfl w_471 w_1588 w_373 w_472 (by decide) he k_St_holds (Nat.le_of_ble_eq_true rfl) rfl (Nat.le_of_ble_eq_true rfl) (by omega) rfl rfl ?_
  refine c_St_holds9 (by omega) he ?_
  refine wp_iconst (v := 2) d_Ca_holds_8 rfl ?_
  refine wp_idiv d_Ca_holds_9 (by decide) ?_
  refine wp_max d_Ca_holds_10 w_475 (by decide) (by omega) ?_
  refine wp_ireturn d_Ca_holds_13 rfl rfl ?_
  rw [sp_one_max]
  exact k
set_option maxRecDepth 4000 in
theorem c_To_holds {m : Nat} {n hh rw nn v : Int32} (hD : 2 ≤ D) (he : h[m]? = some (.inr (11, [.int nn, .int v]))) (k : Q (some (.int (n + hh / 8 + rw))) h) : px_W G D 0 0 m_To_holds 0 (px_ent 4 [.ref m, .int n, .int hh, .int rw]) [] h Q := by
  show px_W _ _ _ _ _ _ [some (.ref m), some (.int n), some (.int hh), some (.int rw)] [] _ _
  refine wp_aload_n d_To_holds_0 rfl rfl rfl ?_
  refine wp_iload_n d_To_holds_1 rfl rfl ?_
  refine wp_iload_n d_To_holds_2 rfl rfl ?_
  refine wp_iload_n d_To_holds_3 rfl rfl ?_
  refine wp_callSU (M' := m_Ti_holds) (as := [_, _, _]) (D' := D - 1) (C1 := 0) (C2 := 0) (S1 := 0) (S2 := 0) (r := (R_11, T_11, 2)) d_To_holds_4 rfl w_487 w_1589 w_391 w_482 (by decide) he k_Ti_holds (Nat.le_of_ble_eq_true rfl) rfl (Nat.le_of_ble_eq_true rfl) (by omega) rfl rfl ?_
  refine c_Ti_holds11 (by omega) he ?_
  refine wp_iload_n d_To_holds_7 rfl rfl ?_
  refine wp_iadd d_To_holds_8 ?_
  refine wp_ireturn d_To_holds_9 rfl rfl ?_
  exact k
set_option maxRecDepth 4000 in
theorem c_Ma_slips {m : Nat} {hh : Int32} (hD : 0 ≤ D) (k : Q (some (.int 0)) h) : px_W G D 0 0 m_Ma_slips 0 (px_ent 2 [.ref m, .int hh]) [] h Q := by
  show px_W _ _ _ _ _ _ [some (.ref m), some (.int hh)] [] _ _
  refine wp_iconst (v := 0) d_Ma_slips_0 rfl ?_
  refine wp_ireturn d_Ma_slips_1 rfl rfl ?_
  exact k
set_option maxRecDepth 4000 in
theorem c_Sl_slips {m : Nat} {hh nn v : Int32} (hD : 0 ≤ D) (he : h[m]? = some (.inr (10, [.int nn, .int v]))) (hv : ¬ v + 2 = 0) (kt : (hh + 1) - (hh + 1) / (v + 2) * (v + 2) = 0 → Q (some (.int 1)) h) (kf : ¬ ((hh + 1) - (hh + 1) / (v + 2) * (v + 2) = 0) → Q (some (.int 0)) h) : px_W G D 0 0 m_Sl_slips 0 (px_ent 2 [.ref m, .int hh]) [] h Q := by
  show px_W _ _ _ _ _ _ [some (.ref m), some (.int hh)] [] _ _
  refine wp_iload_n d_Sl_slips_0 rfl rfl ?_
  refine wp_iconst (v := 1) d_Sl_slips_1 rfl ?_
  refine wp_iadd d_Sl_slips_2 ?_
  refine wp_aload_n d_Sl_slips_3 rfl rfl rfl ?_
  refine wp_getf d_Sl_slips_4 gf_Sl_7_10 he rfl ?_
  refine wp_iconst (v := 2) d_Sl_slips_7 rfl ?_
  refine wp_iadd d_Sl_slips_8 ?_
  refine wp_irem d_Sl_slips_9 hv ?_
  refine wp_if_ne (t := 17) d_Sl_slips_10 (by decide) (fun c_10 => ?_) (fun c_10 => ?_)
  · skip
    refine wp_iconst (v := 0) d_Sl_slips_17 rfl ?_
    refine wp_ireturn d_Sl_slips_18 rfl rfl ?_
    exact kf c_10
  · skip
    refine wp_iconst (v := 1) d_Sl_slips_13 rfl ?_
    refine wp_goto (t := 18) d_Sl_slips_14 (by decide) ?_
    refine wp_ireturn d_Sl_slips_18 rfl rfl ?_
    exact kt c_10
theorem v_kind_TC {C S pc : Nat} {M : px_M} {ls : px_L} {st : List Value} {m k0 : Nat} {nn v : Int32}  (hM : M.1.cls = "TubeChain") (hk : k0 < 7) (he : h[m]? = some (.inr (5 + k0, [.int nn, .int v]))) (d : decode M.2.1 pc = .ok (.invokevirtual 105, 3)) (hst : (st.map fun v => v.category).sum ≤ 8) (hD : 3 ≤ D) (k : px_W G D C S M (pc + 3) ls (.int (nI k0) :: st) h Q) : px_W G D C S M pc ls (.ref m :: st) h Q := by
  match k0, hk, he with
  | 0, _, he =>
    refine wp_callV (r := (R_5, T_5, 2)) (M' := m_Ma_kind) (as := []) (D' := D - 1) (C1 := 0) (C2 := C) (S1 := 0) (S2 := S) d rfl (by rw [hM]; exact w_411) w_412 w_413 he k_Ma_kind (Nat.le_of_ble_eq_true rfl) rfl hst (by omega) (Nat.zero_add _).symm (Nat.zero_add _).symm ?_
    exact c_Ma_kind (by omega) k
  | 1, _, he =>
    refine wp_callU (r := (R_6, T_6, 2)) (x := ⟨"TubeChain$Man", "kind", "()I"⟩) (owner := "TubeChain$Man") (M' := m_St_kind) (as := []) (D' := D - 1) (C1 := 0) (C2 := C) (S1 := 0) (S2 := S) d rfl rfl (by rw [hM]; exact w_411) w_414 w_424 w_425 w_412 (px_in (px_t2 (List.mem_of_getElem? (i := 121) rfl)) rfl) ⟨by decide, by decide⟩ he k_St_kind (Nat.le_of_ble_eq_true rfl) rfl hst (by omega) (Nat.zero_add _).symm (Nat.zero_add _).symm ?_
    exact c_St_kind (by omega) k
  | 2, _, he =>
    refine wp_callU (r := (R_7, T_7, 2)) (x := ⟨"TubeChain$Man", "kind", "()I"⟩) (owner := "TubeChain$Man") (M' := m_Gl_kind) (as := []) (D' := D - 1) (C1 := 0) (C2 := C) (S1 := 0) (S2 := S) d rfl rfl (by rw [hM]; exact w_411) w_414 w_418 w_419 w_412 (px_in (px_t2 (List.mem_of_getElem? (i := 121) rfl)) rfl) ⟨by decide, by decide⟩ he k_Gl_kind (Nat.le_of_ble_eq_true rfl) rfl hst (by omega) (Nat.zero_add _).symm (Nat.zero_add _).symm ?_
    exact c_Gl_kind (by omega) k
  | 3, _, he =>
    refine wp_callU (r := (R_8, T_8, 2)) (x := ⟨"TubeChain$Man", "kind", "()I"⟩) (owner := "TubeChain$Man") (M' := m_Ti_kind) (as := []) (D' := D - 1) (C1 := 0) (C2 := C) (S1 := 0) (S2 := S) d rfl rfl (by rw [hM]; exact w_411) w_414 w_427 w_428 w_412 (px_in (px_t2 (List.mem_of_getElem? (i := 121) rfl)) rfl) ⟨by decide, by decide⟩ he k_Ti_kind (Nat.le_of_ble_eq_true rfl) rfl hst (by omega) (Nat.zero_add _).symm (Nat.zero_add _).symm ?_
    exact c_Ti_kind (by omega) k
  | 4, _, he =>
    refine wp_callU (r := (R_9, T_9, 2)) (x := ⟨"TubeChain$Man", "kind", "()I"⟩) (owner := "TubeChain$Man") (M' := m_Ca_kind) (as := []) (D' := D - 1) (C1 := 0) (C2 := C) (S1 := 0) (S2 := S) d rfl rfl (by rw [hM]; exact w_411) w_414 w_415 w_416 w_412 (px_in (px_t2 (List.mem_of_getElem? (i := 121) rfl)) rfl) ⟨by decide, by decide⟩ he k_Ca_kind (Nat.le_of_ble_eq_true rfl) rfl hst (by omega) (Nat.zero_add _).symm (Nat.zero_add _).symm ?_
    exact c_Ca_kind (by omega) k
  | 5, _, he =>
    refine wp_callU (r := (R_10, T_10, 2)) (x := ⟨"TubeChain$Man", "kind", "()I"⟩) (owner := "TubeChain$Man") (M' := m_Sl_kind) (as := []) (D' := D - 1) (C1 := 0) (C2 := C) (S1 := 0) (S2 := S) d rfl rfl (by rw [hM]; exact w_411) w_414 w_421 w_422 w_412 (px_in (px_t2 (List.mem_of_getElem? (i := 121) rfl)) rfl) ⟨by decide, by decide⟩ he k_Sl_kind (Nat.le_of_ble_eq_true rfl) rfl hst (by omega) (Nat.zero_add _).symm (Nat.zero_add _).symm ?_
    exact c_Sl_kind (by omega) k
  | 6, _, he =>
    refine wp_callU (r := (R_11, T_11, 2)) (x := ⟨"TubeChain$Man", "kind", "()I"⟩) (owner := "TubeChain$Man") (M' := m_To_kind) (as := []) (D' := D - 1) (C1 := 0) (C2 := C) (S1 := 0) (S2 := S) d rfl rfl (by rw [hM]; exact w_411) w_414 w_430 w_431 w_412 (px_in (px_t2 (List.mem_of_getElem? (i := 121) rfl)) rfl) ⟨by decide, by decide⟩ he k_To_kind (Nat.le_of_ble_eq_true rfl) rfl hst (by omega) (Nat.zero_add _).symm (Nat.zero_add _).symm ?_
    exact c_To_kind (by omega) k
theorem v_kind_Sc {C S pc : Nat} {M : px_M} {ls : px_L} {st : List Value} {m k0 : Nat} {nn v : Int32}  (hM : M.1.cls = "TubeChain$Scaffold") (hk : k0 < 7) (he : h[m]? = some (.inr (5 + k0, [.int nn, .int v]))) (d : decode M.2.1 pc = .ok (.invokevirtual 112, 3)) (hst : (st.map fun v => v.category).sum ≤ 8) (hD : 3 ≤ D) (k : px_W G D C S M (pc + 3) ls (.int (nI k0) :: st) h Q) : px_W G D C S M pc ls (.ref m :: st) h Q := by
  match k0, hk, he with
  | 0, _, he =>
    refine wp_callV (r := (R_5, T_5, 2)) (M' := m_Ma_kind) (as := []) (D' := D - 1) (C1 := 0) (C2 := C) (S1 := 0) (S2 := S) d rfl (by rw [hM]; exact w_450) w_412 w_413 he k_Ma_kind (Nat.le_of_ble_eq_true rfl) rfl hst (by omega) (Nat.zero_add _).symm (Nat.zero_add _).symm ?_
    exact c_Ma_kind (by omega) k
  | 1, _, he =>
    refine wp_callU (r := (R_6, T_6, 2)) (x := ⟨"TubeChain$Man", "kind", "()I"⟩) (owner := "TubeChain$Man") (M' := m_St_kind) (as := []) (D' := D - 1) (C1 := 0) (C2 := C) (S1 := 0) (S2 := S) d rfl rfl (by rw [hM]; exact w_450) w_414 w_424 w_425 w_412 (px_in (px_t2 (List.mem_of_getElem? (i := 121) rfl)) rfl) ⟨by decide, by decide⟩ he k_St_kind (Nat.le_of_ble_eq_true rfl) rfl hst (by omega) (Nat.zero_add _).symm (Nat.zero_add _).symm ?_
    exact c_St_kind (by omega) k
  | 2, _, he =>
    refine wp_callU (r := (R_7, T_7, 2)) (x := ⟨"TubeChain$Man", "kind", "()I"⟩) (owner := "TubeChain$Man") (M' := m_Gl_kind) (as := []) (D' := D - 1) (C1 := 0) (C2 := C) (S1 := 0) (S2 := S) d rfl rfl (by rw [hM]; exact w_450) w_414 w_418 w_419 w_412 (px_in (px_t2 (List.mem_of_getElem? (i := 121) rfl)) rfl) ⟨by decide, by decide⟩ he k_Gl_kind (Nat.le_of_ble_eq_true rfl) rfl hst (by omega) (Nat.zero_add _).symm (Nat.zero_add _).symm ?_
    exact c_Gl_kind (by omega) k
  | 3, _, he =>
    refine wp_callU (r := (R_8, T_8, 2)) (x := ⟨"TubeChain$Man", "kind", "()I"⟩) (owner := "TubeChain$Man") (M' := m_Ti_kind) (as := []) (D' := D - 1) (C1 := 0) (C2 := C) (S1 := 0) (S2 := S) d rfl rfl (by rw [hM]; exact w_450) w_414 w_427 w_428 w_412 (px_in (px_t2 (List.mem_of_getElem? (i := 121) rfl)) rfl) ⟨by decide, by decide⟩ he k_Ti_kind (Nat.le_of_ble_eq_true rfl) rfl hst (by omega) (Nat.zero_add _).symm (Nat.zero_add _).symm ?_
    exact c_Ti_kind (by omega) k
  | 4, _, he =>
    refine wp_callU (r := (R_9, T_9, 2)) (x := ⟨"TubeChain$Man", "kind", "()I"⟩) (owner := "TubeChain$Man") (M' := m_Ca_kind) (as := []) (D' := D - 1) (C1 := 0) (C2 := C) (S1 := 0) (S2 := S) d rfl rfl (by rw [hM]; exact w_450) w_414 w_415 w_416 w_412 (px_in (px_t2 (List.mem_of_getElem? (i := 121) rfl)) rfl) ⟨by decide, by decide⟩ he k_Ca_kind (Nat.le_of_ble_eq_true rfl) rfl hst (by omega) (Nat.zero_add _).symm (Nat.zero_add _).symm ?_
    exact c_Ca_kind (by omega) k
  | 5, _, he =>
    refine wp_callU (r := (R_10, T_10, 2)) (x := ⟨"TubeChain$Man", "kind", "()I"⟩) (owner := "TubeChain$Man") (M' := m_Sl_kind) (as := []) (D' := D - 1) (C1 := 0) (C2 := C) (S1 := 0) (S2 := S) d rfl rfl (by rw [hM]; exact w_450) w_414 w_421 w_422 w_412 (px_in (px_t2 (List.mem_of_getElem? (i := 121) rfl)) rfl) ⟨by decide, by decide⟩ he k_Sl_kind (Nat.le_of_ble_eq_true rfl) rfl hst (by omega) (Nat.zero_add _).symm (Nat.zero_add _).symm ?_
    exact c_Sl_kind (by omega) k
  | 6, _, he =>
    refine wp_callU (r := (R_11, T_11, 2)) (x := ⟨"TubeChain$Man", "kind", "()I"⟩) (owner := "TubeChain$Man") (M' := m_To_kind) (as := []) (D' := D - 1) (C1 := 0) (C2 := C) (S1 := 0) (S2 := S) d rfl rfl (by rw [hM]; exact w_450) w_414 w_430 w_431 w_412 (px_in (px_t2 (List.mem_of_getElem? (i := 121) rfl)) rfl) ⟨by decide, by decide⟩ he k_To_kind (Nat.le_of_ble_eq_true rfl) rfl hst (by omega) (Nat.zero_add _).symm (Nat.zero_add _).symm ?_
    exact c_To_kind (by omega) k
theorem v_holds {C S pc : Nat} {M : px_M} {ls : px_L} {st : List Value} {m k0 : Nat} {nn v : Int32} {n hh rw : Int32} (hM : M.1.cls = "TubeChain$Site") (hk : k0 < 7) (he : h[m]? = some (.inr (5 + k0, [.int nn, .int v]))) (d : decode M.2.1 pc = .ok (.invokevirtual 81, 3)) (hst : (st.map fun v => v.category).sum ≤ 8) (hD : 3 ≤ D) (k : px_W G D C S M (pc + 3) ls (.int (sp_holds (nI k0) v hh rw n) :: st) h Q) : px_W G D C S M pc ls (.int rw :: .int hh :: .int n :: .ref m :: st) h Q := by
  match k0, hk, he with
  | 0, _, he =>
    refine wp_callV (r := (R_5, T_5, 2)) (M' := m_Ma_holds) (as := [_, _, _]) (D' := D - 1) (C1 := 0) (C2 := C) (S1 := 0) (S2 := S) d rfl (by rw [hM]; exact w_464) w_465 w_466 he k_Ma_holds (Nat.le_of_ble_eq_true rfl) rfl hst (by omega) (Nat.zero_add _).symm (Nat.zero_add _).symm ?_
    exact c_Ma_holds (by omega) he k
  | 1, _, he =>
    refine wp_callU (r := (R_6, T_6, 2)) (x := ⟨"TubeChain$Man", "holds", "(III)I"⟩) (owner := "TubeChain$Man") (M' := m_St_holds) (as := [_, _, _]) (D' := D - 1) (C1 := 0) (C2 := C) (S1 := 0) (S2 := S) d rfl rfl (by rw [hM]; exact w_464) w_467 w_480 w_472 w_465 (px_in (px_t2 (List.mem_of_getElem? (i := 176) rfl)) rfl) ⟨by decide, by decide⟩ he k_St_holds (Nat.le_of_ble_eq_true rfl) rfl hst (by omega) (Nat.zero_add _).symm (Nat.zero_add _).symm ?_
    exact c_St_holds6 (by omega) he k
  | 2, _, he =>
    refine wp_callU (r := (R_7, T_7, 2)) (x := ⟨"TubeChain$Man", "holds", "(III)I"⟩) (owner := "TubeChain$Man") (M' := m_Gl_holds) (as := [_, _, _]) (D' := D - 1) (C1 := 0) (C2 := C) (S1 := 0) (S2 := S) d rfl rfl (by rw [hM]; exact w_464) w_467 w_476 w_477 w_465 (px_in (px_t2 (List.mem_of_getElem? (i := 176) rfl)) rfl) ⟨by decide, by decide⟩ he k_Gl_holds (Nat.le_of_ble_eq_true rfl) rfl hst (by omega) (Nat.zero_add _).symm (Nat.zero_add _).symm ?_
    exact c_Gl_holds7 (by omega) he k
  | 3, _, he =>
    refine wp_callU (r := (R_8, T_8, 2)) (x := ⟨"TubeChain$Man", "holds", "(III)I"⟩) (owner := "TubeChain$Man") (M' := m_Ti_holds) (as := [_, _, _]) (D' := D - 1) (C1 := 0) (C2 := C) (S1 := 0) (S2 := S) d rfl rfl (by rw [hM]; exact w_464) w_467 w_481 w_482 w_465 (px_in (px_t2 (List.mem_of_getElem? (i := 176) rfl)) rfl) ⟨by decide, by decide⟩ he k_Ti_holds (Nat.le_of_ble_eq_true rfl) rfl hst (by omega) (Nat.zero_add _).symm (Nat.zero_add _).symm ?_
    exact c_Ti_holds8 (by omega) he k
  | 4, _, he =>
    refine wp_callU (r := (R_9, T_9, 2)) (x := ⟨"TubeChain$Man", "holds", "(III)I"⟩) (owner := "TubeChain$Man") (M' := m_Ca_holds) (as := [_, _, _]) (D' := D - 1) (C1 := 0) (C2 := C) (S1 := 0) (S2 := S) d rfl rfl (by rw [hM]; exact w_464) w_467 w_468 w_469 w_465 (px_in (px_t2 (List.mem_of_getElem? (i := 176) rfl)) rfl) ⟨by decide, by decide⟩ he k_Ca_holds (Nat.le_of_ble_eq_true rfl) rfl hst (by omega) (Nat.zero_add _).symm (Nat.zero_add _).symm ?_
    exact c_Ca_holds (by omega) he k
  | 5, _, he =>
    refine wp_callU (r := (R_10, T_10, 2)) (x := ⟨"TubeChain$Man", "holds", "(III)I"⟩) (owner := "TubeChain$Man") (M' := m_Gl_holds) (as := [_, _, _]) (D' := D - 1) (C1 := 0) (C2 := C) (S1 := 0) (S2 := S) d rfl rfl (by rw [hM]; exact w_464) w_467 w_479 w_477 w_465 (px_in (px_t2 (List.mem_of_getElem? (i := 176) rfl)) rfl) ⟨by decide, by decide⟩ he k_Gl_holds (Nat.le_of_ble_eq_true rfl) rfl hst (by omega) (Nat.zero_add _).symm (Nat.zero_add _).symm ?_
    exact c_Gl_holds10 (by omega) he k
  | 6, _, he =>
    refine wp_callU (r := (R_11, T_11, 2)) (x := ⟨"TubeChain$Man", "holds", "(III)I"⟩) (owner := "TubeChain$Man") (M' := m_To_holds) (as := [_, _, _]) (D' := D - 1) (C1 := 0) (C2 := C) (S1 := 0) (S2 := S) d rfl rfl (by rw [hM]; exact w_464) w_467 w_484 w_485 w_465 (px_in (px_t2 (List.mem_of_getElem? (i := 176) rfl)) rfl) ⟨by decide, by decide⟩ he k_To_holds (Nat.le_of_ble_eq_true rfl) rfl hst (by omega) (Nat.zero_add _).symm (Nat.zero_add _).symm ?_
    exact c_To_holds (by omega) he k
theorem v_slips {C S pc : Nat} {M : px_M} {ls : px_L} {st : List Value} {m k0 : Nat} {nn v : Int32} {hh : Int32} (hM : M.1.cls = "TubeChain$Site") (hk : k0 < 7) (he : h[m]? = some (.inr (5 + k0, [.int nn, .int v]))) (d : decode M.2.1 pc = .ok (.invokevirtual 88, 3)) (hst : (st.map fun v => v.category).sum ≤ 8) (hD : 3 ≤ D) (hv : ¬ v + 2 = 0) (kt : (nI k0 = 5 ∧ (hh + 1) - (hh + 1) / (v + 2) * (v + 2) = 0) → px_W G D C S M (pc + 3) ls (.int 1 :: st) h Q) (kf : ¬ (nI k0 = 5 ∧ (hh + 1) - (hh + 1) / (v + 2) * (v + 2) = 0) → px_W G D C S M (pc + 3) ls (.int 0 :: st) h Q) : px_W G D C S M pc ls (.int hh :: .ref m :: st) h Q := by
  match k0, hk, he with
  | 0, _, he =>
    refine wp_callV (r := (R_5, T_5, 2)) (M' := m_Ma_slips) (as := [_]) (D' := D - 1) (C1 := 0) (C2 := C) (S1 := 0) (S2 := S) d rfl (by rw [hM]; exact w_677) w_678 w_679 he k_Ma_slips (Nat.le_of_ble_eq_true rfl) rfl hst (by omega) (Nat.zero_add _).symm (Nat.zero_add _).symm ?_
    exact c_Ma_slips (by omega) (kf (fun y => absurd y.1 (by decide)))
  | 1, _, he =>
    refine wp_callV (r := (R_6, T_6, 2)) (M' := m_Ma_slips) (as := [_]) (D' := D - 1) (C1 := 0) (C2 := C) (S1 := 0) (S2 := S) d rfl (by rw [hM]; exact w_677) w_678 w_686 he k_Ma_slips (Nat.le_of_ble_eq_true rfl) rfl hst (by omega) (Nat.zero_add _).symm (Nat.zero_add _).symm ?_
    exact c_Ma_slips (by omega) (kf (fun y => absurd y.1 (by decide)))
  | 2, _, he =>
    refine wp_callV (r := (R_7, T_7, 2)) (M' := m_Ma_slips) (as := [_]) (D' := D - 1) (C1 := 0) (C2 := C) (S1 := 0) (S2 := S) d rfl (by rw [hM]; exact w_677) w_678 w_682 he k_Ma_slips (Nat.le_of_ble_eq_true rfl) rfl hst (by omega) (Nat.zero_add _).symm (Nat.zero_add _).symm ?_
    exact c_Ma_slips (by omega) (kf (fun y => absurd y.1 (by decide)))
  | 3, _, he =>
    refine wp_callV (r := (R_8, T_8, 2)) (M' := m_Ma_slips) (as := [_]) (D' := D - 1) (C1 := 0) (C2 := C) (S1 := 0) (S2 := S) d rfl (by rw [hM]; exact w_677) w_678 w_687 he k_Ma_slips (Nat.le_of_ble_eq_true rfl) rfl hst (by omega) (Nat.zero_add _).symm (Nat.zero_add _).symm ?_
    exact c_Ma_slips (by omega) (kf (fun y => absurd y.1 (by decide)))
  | 4, _, he =>
    refine wp_callV (r := (R_9, T_9, 2)) (M' := m_Ma_slips) (as := [_]) (D' := D - 1) (C1 := 0) (C2 := C) (S1 := 0) (S2 := S) d rfl (by rw [hM]; exact w_677) w_678 w_681 he k_Ma_slips (Nat.le_of_ble_eq_true rfl) rfl hst (by omega) (Nat.zero_add _).symm (Nat.zero_add _).symm ?_
    exact c_Ma_slips (by omega) (kf (fun y => absurd y.1 (by decide)))
  | 5, _, he =>
    refine wp_callU (r := (R_10, T_10, 2)) (x := ⟨"TubeChain$Man", "slips", "(I)Z"⟩) (owner := "TubeChain$Man") (M' := m_Sl_slips) (as := [_]) (D' := D - 1) (C1 := 0) (C2 := C) (S1 := 0) (S2 := S) d rfl rfl (by rw [hM]; exact w_677) w_680 w_683 w_684 w_678 (px_in (px_t3 (List.mem_of_getElem? (i := 137) rfl)) rfl) ⟨by decide, by decide⟩ he k_Sl_slips (Nat.le_of_ble_eq_true rfl) rfl hst (by omega) (Nat.zero_add _).symm (Nat.zero_add _).symm ?_
    exact c_Sl_slips (by omega) he hv (fun z => kt ⟨rfl, z⟩) (fun z => kf (fun y => z y.2))
  | 6, _, he =>
    refine wp_callV (r := (R_11, T_11, 2)) (M' := m_Ma_slips) (as := [_]) (D' := D - 1) (C1 := 0) (C2 := C) (S1 := 0) (S2 := S) d rfl (by rw [hM]; exact w_677) w_678 w_688 he k_Ma_slips (Nat.le_of_ble_eq_true rfl) rfl hst (by omega) (Nat.zero_add _).symm (Nat.zero_add _).symm ?_
    exact c_Ma_slips (by omega) (kf (fun y => absurd y.1 (by decide)))
end TCM
