/-! what changes: numbers of the places SI, rows of the places SA alone -/
def ms (SI SA : List Nat) (I I' : Nat → Int32) (A A' : Nat → Nat → Int32) : Prop := (∀ k, k ∉ SI → I' k = I k) ∧ ∀ k, k ∉ SA → A' k = A k
theorem ms.rf {SI SA : List Nat} {I : Nat → Int32} {A : Nat → Nat → Int32} : ms SI SA I I A A := ⟨fun _ _ => rfl, fun _ _ => rfl⟩
theorem ms.tr {SI SA : List Nat} {I I1 I2 : Nat → Int32} {A A1 A2 : Nat → Nat → Int32} (h : ms SI SA I I1 A A1) (h2 : ms SI SA I1 I2 A1 A2) : ms SI SA I I2 A A2 := ⟨fun k hk => (h2.1 k hk).trans (h.1 k hk), fun k hk => (h2.2 k hk).trans (h.2 k hk)⟩
theorem ms.mo {SI SA TI TA : List Nat} {I I1 : Nat → Int32} {A A1 : Nat → Nat → Int32} (h : ms SI SA I I1 A A1) (h1 : ∀ k, k ∈ SI → k ∈ TI) (h2 : ∀ k, k ∈ SA → k ∈ TA) : ms TI TA I I1 A A1 := ⟨fun k hk => h.1 k (fun z => hk (h1 k z)), fun k hk => h.2 k (fun z => hk (h2 k z))⟩
theorem ms.i {SI SA : List Nat} {I I1 : Nat → Int32} {A A1 : Nat → Nat → Int32} (h : ms SI SA I I1 A A1) (k : Nat) (hk : k ∈ SI) (x : Int32) : ms SI SA I (upd I1 k x) A A1 := ⟨fun j hj => by
  have : j ≠ k := fun e => hj (e ▸ hk)
  show (if j = k then x else I1 j) = I j
  rw [if_neg this]
  exact h.1 j hj, h.2⟩
theorem ms.a {SI SA : List Nat} {I I1 : Nat → Int32} {A A1 : Nat → Nat → Int32} (h : ms SI SA I I1 A A1) (k : Nat) (hk : k ∈ SA) (x : Nat → Int32) : ms SI SA I I1 A (va_up A1 k x) := ⟨h.1, fun j hj => by
  have : j ≠ k := fun e => hj (e ▸ hk)
  show (if j = k then x else A1 j) = A j
  rw [if_neg this]
  exact h.2 j hj⟩
/-- a code as the reference writes it -/
def mo_enc (t : Nat) : Int32 := if t < 6000 then nI t else if t = 6000 then -33 else if t = 6001 then -38 else -124
def mo_cl (A : Nat → Nat → Int32) (b : Nat) (cl : List sp_Cl) : Prop := ∀ (j : Nat) (c : sp_Cl), cl[j]? = some c → A 18 (b + j) = nI c.1 ∧ c.1 ≤ 4 ∧ A 19 (b + j) = nI c.2.1 ∧ c.2.1 < 100 ∧ (c.1 ≤ 1 → ∃ fr, fr + c.2.2.length ≤ 600 ∧ A 20 (b + j) = nI fr ∧ A 21 (b + j) = nI (fr + c.2.2.length) ∧ sp_dp c.2.2 0 = some 1 ∧ c.2.2.length ≤ 100 ∧ ∀ (i t : Nat), c.2.2[i]? = some t → t ≤ 6002 ∧ A 22 (fr + i) = mo_enc t)
/-- the clauses that hold now stand from b on -/
def mo_cur (I : Nat → Int32) (A : Nat → Nat → Int32) (b : Nat) (cl : List sp_Cl) : Prop := ((I 12 = -1 ∧ b = 0 ∧ cl = []) ∨ ∃ s, s < 6 ∧ I 12 = nI s ∧ A 17 s = nI cl.length ∧ b = 10 * s) ∧ cl.length ≤ 10 ∧ mo_cl A b cl
theorem mo_cl.ms {SI SA : List Nat} {I I' : Nat → Int32} {A A' : Nat → Nat → Int32} {b : Nat} {cl : List sp_Cl} (h : mo_cl A b cl) (hm : ms SI SA I I' A A') (h1 : 18 ∉ SA ∧ 19 ∉ SA ∧ 20 ∉ SA ∧ 21 ∉ SA ∧ 22 ∉ SA) : mo_cl A' b cl := by
  intro j c hc
  rw [hm.2 18 h1.1, hm.2 19 h1.2.1, hm.2 20 h1.2.2.1, hm.2 21 h1.2.2.2.1, hm.2 22 h1.2.2.2.2]
  exact h j c hc
theorem mo_cur.ms {SI SA : List Nat} {I I' : Nat → Int32} {A A' : Nat → Nat → Int32} {b : Nat} {cl : List sp_Cl} (h : mo_cur I A b cl) (hm : ms SI SA I I' A A') (h0 : 12 ∉ SI) (h1 : 17 ∉ SA ∧ 18 ∉ SA ∧ 19 ∉ SA ∧ 20 ∉ SA ∧ 21 ∉ SA ∧ 22 ∉ SA) : mo_cur I' A' b cl := by
  refine ⟨?_, h.2.1, h.2.2.ms hm h1.2⟩
  rw [hm.1 12 h0, hm.2 17 h1.1]
  exact h.1
theorem mo_cur.b {I : Nat → Int32} {A : Nat → Nat → Int32} {b : Nat} {cl : List sp_Cl} (h : mo_cur I A b cl) : b + cl.length ≤ 60 := by
  rcases h with ⟨⟨e, rfl, rfl⟩ | ⟨s, hs, e, ea, rfl⟩, hn, hc⟩
  · simp
  · omega

section MO2
variable {G : px_G} {D : Nat} {X E : px_H} {I : Nat → Int32} {A : Nat → Nat → Int32} {L : Nat → Nat → Int64} {Q : Option Value → px_H → Prop}
set_option maxRecDepth 4000 in
theorem c_Mo_begin {b : Nat} {cl : List sp_Cl} (hD : 0 ≤ D) (h : mo_cur I A b cl) (k : Q (some (.int (nI b))) (HM X I A L E)) : px_W G D 0 0 m_Mo_begin 0 (px_ent 1 [.ref X.length]) [] (HM X I A L E) Q := by
  rcases h with ⟨⟨e, rfl, rfl⟩ | ⟨s, hs, e, ea, rfl⟩, hn, hc⟩
  · show px_W _ _ _ _ _ _ [some (.ref X.length)] [] _ _
    refine wp_aload_n d_Mo_begin_0 rfl rfl rfl ?_
    refine gM_12 rfl d_Mo_begin_1 ?_
    refine wp_if_ge (t := 11) d_Mo_begin_4 (by decide) (fun c_4 => absurd (e ▸ c_4 : (0 : Int32) ≤ -1) (by decide)) (fun c_4 => ?_)
    refine wp_iconst (v := 0) d_Mo_begin_7 rfl ?_
    refine wp_goto (t := 18) d_Mo_begin_8 (by decide) ?_
    refine wp_ireturn d_Mo_begin_18 rfl rfl ?_
    exact k
  · show px_W _ _ _ _ _ _ [some (.ref X.length)] [] _ _
    refine wp_aload_n d_Mo_begin_0 rfl rfl rfl ?_
    refine gM_12 rfl d_Mo_begin_1 ?_
    refine wp_if_ge (t := 11) d_Mo_begin_4 (by decide) (fun c_4 => ?_) (fun c_4 => absurd (by rw [e]; exact nI_pos' (by omega)) c_4)
    refine wp_bipush (v := 10) d_Mo_begin_11 (by decide) ?_
    refine wp_aload_n d_Mo_begin_13 rfl rfl rfl ?_
    refine gM_12 rfl d_Mo_begin_14 ?_
    refine wp_imul d_Mo_begin_17 ?_
    refine wp_ireturn d_Mo_begin_18 rfl rfl ?_
    rw [show (10 : Int32) * I 12 = nI (10 * s) from by rw [e]; exact pk_mul 10 s]
    exact k
set_option maxRecDepth 4000 in
theorem c_Mo_behind {b : Nat} {cl : List sp_Cl} (hD : 0 ≤ D) (h : mo_cur I A b cl) (k : Q (some (.int (nI (b + cl.length)))) (HM X I A L E)) : px_W G D 0 0 m_Mo_behind 0 (px_ent 1 [.ref X.length]) [] (HM X I A L E) Q := by
  rcases h with ⟨⟨e, rfl, rfl⟩ | ⟨s, hs, e, ea, rfl⟩, hn, hc⟩
  · show px_W _ _ _ _ _ _ [some (.ref X.length)] [] _ _
    refine wp_aload_n d_Mo_behind_0 rfl rfl rfl ?_
    refine gM_12 rfl d_Mo_behind_1 ?_
    refine wp_if_ge (t := 11) d_Mo_behind_4 (by decide) (fun c_4 => absurd (e ▸ c_4 : (0 : Int32) ≤ -1) (by decide)) (fun c_4 => ?_)
    refine wp_iconst (v := 0) d_Mo_behind_7 rfl ?_
    refine wp_goto (t := 28) d_Mo_behind_8 (by decide) ?_
    refine wp_ireturn d_Mo_behind_28 rfl rfl ?_
    exact k
  · show px_W _ _ _ _ _ _ [some (.ref X.length)] [] _ _
    refine wp_aload_n d_Mo_behind_0 rfl rfl rfl ?_
    refine gM_12 rfl d_Mo_behind_1 ?_
    refine wp_if_ge (t := 11) d_Mo_behind_4 (by decide) (fun c_4 => ?_) (fun c_4 => absurd (by rw [e]; exact nI_pos' (by omega)) c_4)
    refine wp_bipush (v := 10) d_Mo_behind_11 (by decide) ?_
    refine wp_aload_n d_Mo_behind_13 rfl rfl rfl ?_
    refine gM_12 rfl d_Mo_behind_14 ?_
    refine wp_imul d_Mo_behind_17 ?_
    refine wp_aload_n d_Mo_behind_18 rfl rfl rfl ?_
    refine gM_17 rfl d_Mo_behind_19 ?_
    refine wp_aload_n d_Mo_behind_22 rfl rfl rfl ?_
    refine gM_12 rfl d_Mo_behind_23 ?_
    refine lM_17 d_Mo_behind_26 (by rw [e]; exact vp_in_nI hs (by decide)) ?_
    refine wp_iadd d_Mo_behind_27 ?_
    refine wp_ireturn d_Mo_behind_28 rfl rfl ?_
    rw [show (10 : Int32) * I 12 + A 17 (I 12).toNatClampNeg = nI (10 * s + cl.length) from by rw [e, nI_clamp (by omega), ea]; exact (congrArg (· + nI cl.length) (pk_mul 10 s)).trans (nI_add _ _)]
    exact k
set_option maxRecDepth 4000 in
theorem l_Mo_lastOf_8 {b : Nat} {cl : List sp_Cl} {w : Nat} {dn : Int32} (hw : w ≤ 4) (hD : 1 ≤ D) (h : mo_cur I A b cl) : ∀ (q j : Nat) (n : Int32), j + q = cl.length → Q (some (.int (sp_last w (cl.drop j) n))) (HM X I A L E) → px_W G D 0 0 m_Mo_lastOf 8 [some (.ref X.length), some (.int (nI w)), some (.int dn), some (.int n), some (.int (nI (b + j)))] [] (HM X I A L E) Q := by
  have hb := h.b
  intro q
  induction q with
  | zero =>
    intro j n hj hq
    refine wp_iload d_Mo_lastOf_8 rfl ?_
    refine wp_aload_n d_Mo_lastOf_10 rfl rfl rfl ?_
    refine wp_callV (r := (R_12, T_12, 70)) (M' := m_Mo_behind) (as := []) (D' := D - 1) (C1 := 0) (C2 := 0) (S1 := 0) (S2 := 0) d_Mo_lastOf_11 rfl w_1313 w_1315 w_35 hm_0 k_Mo_behind (Nat.le_of_ble_eq_true rfl) rfl (Nat.le_of_ble_eq_true rfl) (by omega) rfl rfl ?_
    refine c_Mo_behind (by omega) h ?_
    refine wp_icmp_ge (t := 46) d_Mo_lastOf_14 (by decide) (fun c_14 => ?_) (fun c_14 => absurd (nI_le (by omega) (by omega)) c_14)
    refine wp_iload_n d_Mo_lastOf_46 rfl rfl ?_
    refine wp_ireturn d_Mo_lastOf_47 rfl rfl ?_
    rw [List.drop_eq_nil_of_le (by omega)] at hq
    exact hq
  | succ q ih =>
    intro j n hj hq
    have hlt : j < cl.length := by omega
    obtain ⟨e1, e2, e3, e4, -⟩ := h.2.2 j _ (List.getElem?_eq_getElem hlt)
    have en : nI (b + j) + 1 = nI (b + (j + 1)) := nI_1 (b + j)
    have hst : sp_last w (cl.drop j) n = sp_last w (cl.drop (j + 1)) (if cl[j].1 = w then nI cl[j].2.1 else n) := by rw [List.drop_eq_getElem_cons hlt]; rfl
    rw [hst] at hq
    refine wp_iload d_Mo_lastOf_8 rfl ?_
    refine wp_aload_n d_Mo_lastOf_10 rfl rfl rfl ?_
    refine wp_callV (r := (R_12, T_12, 70)) (M' := m_Mo_behind) (as := []) (D' := D - 1) (C1 := 0) (C2 := 0) (S1 := 0) (S2 := 0) d_Mo_lastOf_11 rfl w_1313 w_1315 w_35 hm_0 k_Mo_behind (Nat.le_of_ble_eq_true rfl) rfl (Nat.le_of_ble_eq_true rfl) (by omega) rfl rfl ?_
    refine c_Mo_behind (by omega) h ?_
    refine wp_icmp_ge (t := 46) d_Mo_lastOf_14 (by decide) (fun c_14 => absurd c_14 (nI_ge (by omega) (by omega))) (fun c_14 => ?_)
    refine wp_aload_n d_Mo_lastOf_17 rfl rfl rfl ?_
    refine gM_18 rfl d_Mo_lastOf_18 ?_
    refine wp_iload d_Mo_lastOf_21 rfl ?_
    refine lM_18 d_Mo_lastOf_23 (vp_in_nI (by omega) (by decide)) ?_
    refine wp_iload_n d_Mo_lastOf_24 rfl rfl ?_
    refine wp_icmp_ne (t := 38) d_Mo_lastOf_25 (by decide) (fun c_25 => ?_) (fun c_25 => ?_)
    · skip
      refine wp_iload_n d_Mo_lastOf_38 rfl rfl ?_
      refine wp_istore_n (ls' := [_, _, _, _, _]) d_Mo_lastOf_39 rfl (by decide) rfl ?_
      refine wp_iinc (v := _ + 1) (ls' := [_, _, _, _, _]) d_Mo_lastOf_40 (by decide) rfl rfl rfl ?_
      refine wp_goto (t := 8) d_Mo_lastOf_43 (by decide) ?_
      rw [en]
      rw [nI_clamp (by omega), e1] at c_25
      first
        | (have c_26 := (nI_eq (by omega) (by omega)).mp c_25
           rw [if_pos c_26] at hq
           rw [nI_clamp (by omega), e3]
           exact ih (j + 1) _ (by omega) hq)
        | (rw [if_neg (fun z => c_25 (by rw [z]))] at hq
           exact ih (j + 1) _ (by omega) hq)
    · skip
      refine wp_aload_n d_Mo_lastOf_28 rfl rfl rfl ?_
      refine gM_19 rfl d_Mo_lastOf_29 ?_
      refine wp_iload d_Mo_lastOf_32 rfl ?_
      refine lM_19 d_Mo_lastOf_34 (vp_in_nI (by omega) (by decide)) ?_
      refine wp_goto (t := 39) d_Mo_lastOf_35 (by decide) ?_
      refine wp_istore_n (ls' := [_, _, _, _, _]) d_Mo_lastOf_39 rfl (by decide) rfl ?_
      refine wp_iinc (v := _ + 1) (ls' := [_, _, _, _, _]) d_Mo_lastOf_40 (by decide) rfl rfl rfl ?_
      refine wp_goto (t := 8) d_Mo_lastOf_43 (by decide) ?_
      rw [en]
      rw [nI_clamp (by omega), e1] at c_25
      first
        | (have c_26 := (nI_eq (by omega) (by omega)).mp c_25
           rw [if_pos c_26] at hq
           rw [nI_clamp (by omega), e3]
           exact ih (j + 1) _ (by omega) hq)
        | (rw [if_neg (fun z => c_25 (by rw [z]))] at hq
           exact ih (j + 1) _ (by omega) hq)
set_option maxRecDepth 4000 in
theorem c_Mo_lastOf {b : Nat} {cl : List sp_Cl} {w : Nat} {dn : Int32} (hD : 1 ≤ D) (hw : w ≤ 4) (h : mo_cur I A b cl) (k : Q (some (.int (sp_last w cl dn))) (HM X I A L E)) : px_W G D 0 0 m_Mo_lastOf 0 (px_ent 5 [.ref X.length, .int (nI w), .int dn]) [] (HM X I A L E) Q := by
  show px_W _ _ _ _ _ _ [some (.ref X.length), some (.int (nI w)), some (.int dn), none, none] [] _ _
  refine wp_iload_n d_Mo_lastOf_0 rfl rfl ?_
  refine wp_istore_n (ls' := [_, _, _, _, _]) d_Mo_lastOf_1 rfl (by decide) rfl ?_
  refine wp_aload_n d_Mo_lastOf_2 rfl rfl rfl ?_
  refine wp_callV (r := (R_12, T_12, 70)) (M' := m_Mo_begin) (as := []) (D' := D - 1) (C1 := 0) (C2 := 0) (S1 := 0) (S2 := 0) d_Mo_lastOf_3 rfl w_1309 w_1311 w_34 hm_0 k_Mo_begin (Nat.le_of_ble_eq_true rfl) rfl (Nat.le_of_ble_eq_true rfl) (by omega) rfl rfl ?_
  refine c_Mo_begin (by omega) h ?_
  refine wp_istore (ls' := [_, _, _, _, _]) d_Mo_lastOf_6 (by decide) rfl ?_
  exact l_Mo_lastOf_8 hw hD h cl.length 0 dn (by omega) k
set_option maxRecDepth 4000 in
theorem c_Mo_rise {b : Nat} {cl : List sp_Cl} (hD : 2 ≤ D) (h : mo_cur I A b cl) (k : Q (some (.int (sp_rise cl))) (HM X I A L E)) : px_W G D 0 0 m_Mo_rise 0 (px_ent 1 [.ref X.length]) [] (HM X I A L E) Q := by
  show px_W _ _ _ _ _ _ [some (.ref X.length)] [] _ _
  refine wp_aload_n d_Mo_rise_0 rfl rfl rfl ?_
  refine wp_iconst (v := 2) d_Mo_rise_1 rfl ?_
  refine wp_iconst (v := 5) d_Mo_rise_2 rfl ?_
  refine wp_callV (r := (R_12, T_12, 70)) (M' := m_Mo_lastOf) (as := [_, _]) (D' := D - 1) (C1 := 0) (C2 := 0) (S1 := 0) (S2 := 0) d_Mo_rise_3 rfl w_1345 w_1347 w_42 hm_0 k_Mo_lastOf (Nat.le_of_ble_eq_true rfl) rfl (Nat.le_of_ble_eq_true rfl) (by omega) rfl rfl ?_
  refine c_Mo_lastOf (by omega) (w := 2) (by decide) h ?_
  refine wp_ireturn d_Mo_rise_6 rfl rfl ?_
  exact k
set_option maxRecDepth 4000 in
theorem c_Mo_rest {b : Nat} {cl : List sp_Cl} (hD : 2 ≤ D) (h : mo_cur I A b cl) (k : Q (some (.int (sp_rest cl))) (HM X I A L E)) : px_W G D 0 0 m_Mo_rest 0 (px_ent 1 [.ref X.length]) [] (HM X I A L E) Q := by
  show px_W _ _ _ _ _ _ [some (.ref X.length)] [] _ _
  refine wp_aload_n d_Mo_rest_0 rfl rfl rfl ?_
  refine wp_iconst (v := 3) d_Mo_rest_1 rfl ?_
  refine wp_iconst (v := 3) d_Mo_rest_2 rfl ?_
  refine wp_callV (r := (R_12, T_12, 70)) (M' := m_Mo_lastOf) (as := [_, _]) (D' := D - 1) (C1 := 0) (C2 := 0) (S1 := 0) (S2 := 0) d_Mo_rest_3 rfl w_1345 w_1347 w_42 hm_0 k_Mo_lastOf (Nat.le_of_ble_eq_true rfl) rfl (Nat.le_of_ble_eq_true rfl) (by omega) rfl rfl ?_
  refine c_Mo_lastOf (by omega) (w := 3) (by decide) h ?_
  refine wp_ireturn d_Mo_rest_6 rfl rfl ?_
  exact k
set_option maxRecDepth 4000 in
theorem c_Mo_pull {b : Nat} {cl : List sp_Cl} (hD : 2 ≤ D) (h : mo_cur I A b cl) (k : Q (some (.int (sp_pull cl))) (HM X I A L E)) : px_W G D 0 0 m_Mo_pull 0 (px_ent 1 [.ref X.length]) [] (HM X I A L E) Q := by
  show px_W _ _ _ _ _ _ [some (.ref X.length)] [] _ _
  refine wp_aload_n d_Mo_pull_0 rfl rfl rfl ?_
  refine wp_aload_n d_Mo_pull_1 rfl rfl rfl ?_
  refine wp_iconst (v := 4) d_Mo_pull_2 rfl ?_
  refine wp_bipush (v := 40) d_Mo_pull_3 (by decide) ?_
  refine wp_callV (r := (R_12, T_12, 70)) (M' := m_Mo_lastOf) (as := [_, _]) (D' := D - 1) (C1 := 0) (C2 := 0) (S1 := 0) (S2 := 0) d_Mo_pull_5 rfl w_1345 w_1347 w_42 hm_0 k_Mo_lastOf (Nat.le_of_ble_eq_true rfl) rfl (Nat.le_of_ble_eq_true rfl) (by omega) rfl rfl ?_
  refine c_Mo_lastOf (by omega) (w := 4) (by decide) h ?_
  refine wp_callV (r := (R_12, T_12, 70)) (M' := m_Mo_atLeastOne) (as := [_]) (D' := D - 1) (C1 := 0) (C2 := 0) (S1 := 0) (S2 := 0) d_Mo_pull_8 rfl w_1325 w_1327 w_38 hm_0 k_Mo_atLeastOne (Nat.le_of_ble_eq_true rfl) rfl (Nat.le_of_ble_eq_true rfl) (by omega) rfl rfl ?_
  refine c_Mo_atLeastOne (by omega)  ?_
  refine wp_ireturn d_Mo_pull_11 rfl rfl ?_
  exact k
set_option maxRecDepth 4000 in
theorem c_Mo_strongly {m n : Int32} (hD : 1 ≤ D) (hi : vp_in m 6) (k : Q (some (.int (sp_strong (A 6 m.toNatClampNeg) n))) (HM X I A L E)) : px_W G D 0 0 m_Mo_strongly 0 (px_ent 3 [.ref X.length, .int m, .int n]) [] (HM X I A L E) Q := by
  show px_W _ _ _ _ _ _ [some (.ref X.length), some (.int m), some (.int n)] [] _ _
  refine wp_aload_n d_Mo_strongly_0 rfl rfl rfl ?_
  refine wp_iload_n d_Mo_strongly_1 rfl rfl ?_
  refine wp_aload_n d_Mo_strongly_2 rfl rfl rfl ?_
  refine gM_6 rfl d_Mo_strongly_3 ?_
  refine wp_iload_n d_Mo_strongly_6 rfl rfl ?_
  refine lM_6 d_Mo_strongly_7 hi ?_
  refine wp_iconst (v := 2) d_Mo_strongly_8 rfl ?_
  refine wp_idiv d_Mo_strongly_9 (by decide) ?_
  refine wp_isub d_Mo_strongly_10 ?_
  refine wp_callV (r := (R_12, T_12, 70)) (M' := m_Mo_atLeastOne) (as := [_]) (D' := D - 1) (C1 := 0) (C2 := 0) (S1 := 0) (S2 := 0) d_Mo_strongly_11 rfl w_1325 w_1327 w_38 hm_0 k_Mo_atLeastOne (Nat.le_of_ble_eq_true rfl) rfl (Nat.le_of_ble_eq_true rfl) (by omega) rfl rfl ?_
  refine c_Mo_atLeastOne (by omega)  ?_
  refine wp_ireturn d_Mo_strongly_14 rfl rfl ?_
  exact k
end MO2
