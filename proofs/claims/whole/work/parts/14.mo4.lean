theorem va_us {A : Nat → Nat → Int32} {k : Nat} : va_up A k (A k) = A := by
  funext j
  by_cases h : j = k
  · subst h; exact if_pos rfl
  · exact if_neg h
theorem ui_us {I : Nat → Int32} {k : Nat} : upd I k (I k) = I := by
  funext j
  by_cases h : j = k
  · subst h; exact if_pos rfl
  · exact if_neg h
section MO4
variable {G : px_G} {D : Nat} {X E : px_H} {I : Nat → Int32} {A : Nat → Nat → Int32} {L : Nat → Nat → Int64} {Q : Option Value → px_H → Prop}
set_option maxRecDepth 4000 in
theorem c_Mo_holdsTest {b j m p : Nat} {cl : List sp_Cl} {c : sp_Cl} (hD : 1 ≤ D) (hcl : mo_cl A b cl) (hj : cl[j]? = some c) (hw : c.1 ≤ 1) (hbj : b + j < 60) (hm : m < 6) (hp : I 29 = nI p) (k : ∀ f : Nat → Int32, Q (some (.int (bI (sp_tr (sp_fact (A 5) (A 6) (A 7) m p) c.2.2)))) (HM X I (va_up A 28 f) L E)) : px_W G D 0 0 m_Mo_holdsTest 0 (px_ent 8 [.ref X.length, .int (nI (b + j)), .int (nI m)]) [] (HM X I A L E) Q := by
  obtain ⟨-, -, -, -, hx⟩ := hcl j c hj
  obtain ⟨fr, hfl, e20, e21, hdp, hcl100, e22⟩ := hx hw
  show px_W _ _ _ _ _ _ [some (.ref X.length), some (.int (nI (b + j))), some (.int (nI m)), none, none, none, none, none] [] _ _
  refine wp_iconst (v := 0) d_Mo_holdsTest_0 rfl ?_
  refine wp_istore_n (ls' := [_, _, _, _, _, _, _, _]) d_Mo_holdsTest_1 rfl (by decide) rfl ?_
  refine wp_aload_n d_Mo_holdsTest_2 rfl rfl rfl ?_
  refine gM_20 rfl d_Mo_holdsTest_3 ?_
  refine wp_iload_n d_Mo_holdsTest_6 rfl rfl ?_
  refine lM_20 d_Mo_holdsTest_7 (vp_in_nI (by omega) (by decide)) ?_
  refine wp_istore (ls' := [_, _, _, _, _, _, _, _]) d_Mo_holdsTest_8 (by decide) rfl ?_
  rw [nI_clamp (by omega), e20, show HM X I A L E = HM X I (va_up A 28 (A 28)) L E from by rw [va_us]]
  exact l_Mo_holdsTest_10 (by omega) hm hp hbj hfl e20 e21 c.2.2 0 [] (A 28) (fun i t h => by rw [Nat.zero_add]; exact e22 i t h) trivial hdp (by simpa using hcl100) (by simp) k
set_option maxRecDepth 4000 in
theorem l_Mo_pace_13 {b m p : Nat} {cl : List sp_Cl} (hD : 2 ≤ D) (h : mo_cur I A b cl) (hm : m < 6) (hp6 : p < 6) (hp : I 29 = nI p) (hch : A 10 p = nI m) : ∀ (q j : Nat) (n : Int32) (f : Nat → Int32), j + q = cl.length → (∀ f' : Nat → Int32, Q (some (.int (sp_one ((cl.drop j).foldl (sp_add (sp_fact (A 5) (A 6) (A 7) m p)) n)))) (HM X I (va_up A 28 f') L E)) → px_W G D 0 0 m_Mo_pace 13 [some (.ref X.length), some (.int (nI p)), some (.int n), some (.int (nI (b + j)))] [] (HM X I (va_up A 28 f) L E) Q := by
  have hb := h.b
  have h28 : ∀ f, mo_cur I (va_up A 28 f) b cl := fun f => h.ms (ms.rf.a 28 (SI := []) (SA := [28]) (by decide) f) (by decide) (by decide)
  intro q
  induction q with
  | zero =>
    intro j n f hj hq
    refine wp_iload_n d_Mo_pace_13 rfl rfl ?_
    refine wp_aload_n d_Mo_pace_14 rfl rfl rfl ?_
    refine wp_callV (r := (R_12, T_12, 70)) (M' := m_Mo_behind) (as := []) (D' := D - 1) (C1 := 0) (C2 := 0) (S1 := 0) (S2 := 0) d_Mo_pace_15 rfl w_1313 w_1315 w_35 hm_0 k_Mo_behind (Nat.le_of_ble_eq_true rfl) rfl (Nat.le_of_ble_eq_true rfl) (by omega) rfl rfl ?_
    refine c_Mo_behind (by omega) (h28 f) ?_
    refine wp_icmp_ge (t := 82) d_Mo_pace_18 (by decide) (fun c_18 => ?_) (fun c_18 => absurd (nI_le (by omega) (by omega)) c_18)
    refine wp_aload_n d_Mo_pace_82 rfl rfl rfl ?_
    refine wp_iload_n d_Mo_pace_83 rfl rfl ?_
    refine wp_callV (r := (R_12, T_12, 70)) (M' := m_Mo_atLeastOne) (as := [_]) (D' := D - 1) (C1 := 0) (C2 := 0) (S1 := 0) (S2 := 0) d_Mo_pace_84 rfl w_1325 w_1327 w_38 hm_0 k_Mo_atLeastOne (Nat.le_of_ble_eq_true rfl) rfl (Nat.le_of_ble_eq_true rfl) (by omega) rfl rfl ?_
    refine c_Mo_atLeastOne (by omega)  ?_
    refine wp_ireturn d_Mo_pace_87 rfl rfl ?_
    rw [List.drop_eq_nil_of_le (by omega)] at hq
    exact hq f
  | succ q ih =>
    intro j n f hj hq
    have hlt : j < cl.length := by omega
    have hj0 := List.getElem?_eq_getElem hlt
    obtain ⟨e1, e2, e3, e4, -⟩ := h.2.2 j _ hj0
    have en : nI (b + j) + 1 = nI (b + (j + 1)) := nI_1 (b + j)
    have hst : ∀ f, (cl.drop j).foldl (sp_add f) n = (cl.drop (j + 1)).foldl (sp_add f) (sp_add f n cl[j]) := fun f => by rw [List.drop_eq_getElem_cons hlt]; rfl
    rw [hst] at hq
    have e1' : ∀ f : Nat → Int32, va_up A 28 f 18 (nI (b + j)).toNatClampNeg = nI cl[j].1 := fun f => by rw [nI_clamp (by omega)]; exact e1
    have e3' : ∀ f : Nat → Int32, va_up A 28 f 19 (nI (b + j)).toNatClampNeg = nI cl[j].2.1 := fun f => by rw [nI_clamp (by omega)]; exact e3
    have ech : ∀ f : Nat → Int32, va_up A 28 f 10 (nI p).toNatClampNeg = nI m := fun f => by rw [nI_clamp (by omega)]; exact hch
    refine wp_iload_n d_Mo_pace_13 rfl rfl ?_
    refine wp_aload_n d_Mo_pace_14 rfl rfl rfl ?_
    refine wp_callV (r := (R_12, T_12, 70)) (M' := m_Mo_behind) (as := []) (D' := D - 1) (C1 := 0) (C2 := 0) (S1 := 0) (S2 := 0) d_Mo_pace_15 rfl w_1313 w_1315 w_35 hm_0 k_Mo_behind (Nat.le_of_ble_eq_true rfl) rfl (Nat.le_of_ble_eq_true rfl) (by omega) rfl rfl ?_
    refine c_Mo_behind (by omega) (h28 f) ?_
    refine wp_icmp_ge (t := 82) d_Mo_pace_18 (by decide) (fun c_18 => absurd c_18 (nI_ge (by omega) (by omega))) (fun c_18 => ?_)
    refine wp_aload_n d_Mo_pace_21 rfl rfl rfl ?_
    refine gM_18 rfl d_Mo_pace_22 ?_
    refine wp_iload_n d_Mo_pace_25 rfl rfl ?_
    refine lM_18 d_Mo_pace_26 (vp_in_nI (by omega) (by decide)) ?_
    rw [e1']
    refine wp_iconst (v := 1) d_Mo_pace_27 rfl ?_
    refine wp_icmp_gt (t := 76) d_Mo_pace_28 (by decide) (fun c_28 => ?_) (fun c_28 => ?_)
    · skip
      refine wp_iinc (v := _ + 1) (ls' := [_, _, _, _]) d_Mo_pace_76 (by decide) rfl rfl rfl ?_
      refine wp_goto (t := 13) d_Mo_pace_79 (by decide) ?_
      rw [en]
      refine ih (j + 1) _ _ (by omega) (fun f2 => ?_)
      have h2 := hq f2
      first
        | (rw [show sp_add (sp_fact (A 5) (A 6) (A 7) m p) n cl[j] = n from if_neg (fun z => absurd z.1 (Nat.not_le.mpr (by rcases Nat.lt_or_ge 1 cl[j].1 with z1 | z1; exact z1; exact absurd c_28 (nI_nlt (a := 1) (b := cl[j].1) z1 (by decide)))))] at h2; exact h2)
        | (rw [show sp_add (sp_fact (A 5) (A 6) (A 7) m p) n cl[j] = n from if_neg (fun z => by have c' : bI (sp_tr (sp_fact (A 5) (A 6) (A 7) m p) cl[j].2.2) = 0 := c_42; rw [z.2] at c'; exact absurd c' (by decide))] at h2; exact h2)
        | (rw [show sp_add (sp_fact (A 5) (A 6) (A 7) m p) n cl[j] = n + nI cl[j].2.1 from (if_pos ⟨hw1, htr⟩).trans (if_pos ((nI_eq (b := 0) (by omega) (by decide)).mp c_55))] at h2; exact h2)
        | (rw [show sp_add (sp_fact (A 5) (A 6) (A 7) m p) n cl[j] = n + -nI cl[j].2.1 from (if_pos ⟨hw1, htr⟩).trans (if_neg (fun z => c_55 (by rw [z]; rfl)))] at h2; exact h2)
    · skip
      refine wp_aload_n d_Mo_pace_31 rfl rfl rfl ?_
      refine wp_iload_n d_Mo_pace_32 rfl rfl ?_
      refine wp_aload_n d_Mo_pace_33 rfl rfl rfl ?_
      refine gM_10 rfl d_Mo_pace_34 ?_
      refine wp_iload_n d_Mo_pace_37 rfl rfl ?_
      refine lM_10 d_Mo_pace_38 (vp_in_nI (by omega) (by decide)) ?_
      rw [ech]
      have hw1 : cl[j].1 ≤ 1 := by rcases Nat.lt_or_ge 1 cl[j].1 with z1 | z1; exact absurd (nI_lt (a := 1) (b := cl[j].1) z1 (by omega)) c_28; exact z1
      refine wp_callV (r := (R_12, T_12, 70)) (M' := m_Mo_holdsTest) (as := [_, _]) (D' := D - 1) (C1 := 0) (C2 := 0) (S1 := 0) (S2 := 0) d_Mo_pace_39 rfl w_1317 w_1319 w_36 hm_0 k_Mo_holdsTest (Nat.le_of_ble_eq_true rfl) rfl (Nat.le_of_ble_eq_true rfl) (by omega) rfl rfl ?_
      refine c_Mo_holdsTest (by omega) (h28 f).2.2 hj0 hw1 (by omega) hm hp (fun f1 => ?_)
      rw [bx_uu]
      refine wp_if_ne (t := 48) d_Mo_pace_42 (by decide) (fun c_42 => ?_) (fun c_42 => ?_)
      · skip
        have htr : sp_tr (sp_fact (A 5) (A 6) (A 7) m p) cl[j].2.2 = true := by cases hz : sp_tr (sp_fact (A 5) (A 6) (A 7) m p) cl[j].2.2 with
          | true => rfl
          | false => exact absurd (show bI (sp_tr (sp_fact (A 5) (A 6) (A 7) m p) cl[j].2.2) = 0 by rw [hz]; rfl) c_42
        refine wp_iload_n d_Mo_pace_48 rfl rfl ?_
        refine wp_aload_n d_Mo_pace_49 rfl rfl rfl ?_
        refine gM_18 rfl d_Mo_pace_50 ?_
        refine wp_iload_n d_Mo_pace_53 rfl rfl ?_
        refine lM_18 d_Mo_pace_54 (vp_in_nI (by omega) (by decide)) ?_
        rw [e1']
        refine wp_if_ne (t := 67) d_Mo_pace_55 (by decide) (fun c_55 => ?_) (fun c_55 => ?_)
        · skip
          refine wp_aload_n d_Mo_pace_67 rfl rfl rfl ?_
          refine gM_19 rfl d_Mo_pace_68 ?_
          refine wp_iload_n d_Mo_pace_71 rfl rfl ?_
          refine lM_19 d_Mo_pace_72 (vp_in_nI (by omega) (by decide)) ?_
          rw [e3']
          refine wp_ineg d_Mo_pace_73 ?_
          refine wp_iadd d_Mo_pace_74 ?_
          refine wp_istore_n (ls' := [_, _, _, _]) d_Mo_pace_75 rfl (by decide) rfl ?_
          refine wp_iinc (v := _ + 1) (ls' := [_, _, _, _]) d_Mo_pace_76 (by decide) rfl rfl rfl ?_
          refine wp_goto (t := 13) d_Mo_pace_79 (by decide) ?_
          rw [en]
          refine ih (j + 1) _ _ (by omega) (fun f2 => ?_)
          have h2 := hq f2
          first
            | (rw [show sp_add (sp_fact (A 5) (A 6) (A 7) m p) n cl[j] = n from if_neg (fun z => absurd z.1 (Nat.not_le.mpr (by rcases Nat.lt_or_ge 1 cl[j].1 with z1 | z1; exact z1; exact absurd c_28 (nI_nlt (a := 1) (b := cl[j].1) z1 (by decide)))))] at h2; exact h2)
            | (rw [show sp_add (sp_fact (A 5) (A 6) (A 7) m p) n cl[j] = n from if_neg (fun z => by have c' : bI (sp_tr (sp_fact (A 5) (A 6) (A 7) m p) cl[j].2.2) = 0 := c_42; rw [z.2] at c'; exact absurd c' (by decide))] at h2; exact h2)
            | (rw [show sp_add (sp_fact (A 5) (A 6) (A 7) m p) n cl[j] = n + nI cl[j].2.1 from (if_pos ⟨hw1, htr⟩).trans (if_pos ((nI_eq (b := 0) (by omega) (by decide)).mp c_55))] at h2; exact h2)
            | (rw [show sp_add (sp_fact (A 5) (A 6) (A 7) m p) n cl[j] = n + -nI cl[j].2.1 from (if_pos ⟨hw1, htr⟩).trans (if_neg (fun z => c_55 (by rw [z]; rfl)))] at h2; exact h2)
        · skip
          refine wp_aload_n d_Mo_pace_58 rfl rfl rfl ?_
          refine gM_19 rfl d_Mo_pace_59 ?_
          refine wp_iload_n d_Mo_pace_62 rfl rfl ?_
          refine lM_19 d_Mo_pace_63 (vp_in_nI (by omega) (by decide)) ?_
          rw [e3']
          refine wp_goto (t := 74) d_Mo_pace_64 (by decide) ?_
          refine wp_iadd d_Mo_pace_74 ?_
          refine wp_istore_n (ls' := [_, _, _, _]) d_Mo_pace_75 rfl (by decide) rfl ?_
          refine wp_iinc (v := _ + 1) (ls' := [_, _, _, _]) d_Mo_pace_76 (by decide) rfl rfl rfl ?_
          refine wp_goto (t := 13) d_Mo_pace_79 (by decide) ?_
          rw [en]
          refine ih (j + 1) _ _ (by omega) (fun f2 => ?_)
          have h2 := hq f2
          first
            | (rw [show sp_add (sp_fact (A 5) (A 6) (A 7) m p) n cl[j] = n from if_neg (fun z => absurd z.1 (Nat.not_le.mpr (by rcases Nat.lt_or_ge 1 cl[j].1 with z1 | z1; exact z1; exact absurd c_28 (nI_nlt (a := 1) (b := cl[j].1) z1 (by decide)))))] at h2; exact h2)
            | (rw [show sp_add (sp_fact (A 5) (A 6) (A 7) m p) n cl[j] = n from if_neg (fun z => by have c' : bI (sp_tr (sp_fact (A 5) (A 6) (A 7) m p) cl[j].2.2) = 0 := c_42; rw [z.2] at c'; exact absurd c' (by decide))] at h2; exact h2)
            | (rw [show sp_add (sp_fact (A 5) (A 6) (A 7) m p) n cl[j] = n + nI cl[j].2.1 from (if_pos ⟨hw1, htr⟩).trans (if_pos ((nI_eq (b := 0) (by omega) (by decide)).mp c_55))] at h2; exact h2)
            | (rw [show sp_add (sp_fact (A 5) (A 6) (A 7) m p) n cl[j] = n + -nI cl[j].2.1 from (if_pos ⟨hw1, htr⟩).trans (if_neg (fun z => c_55 (by rw [z]; rfl)))] at h2; exact h2)
      · skip
        refine wp_goto (t := 76) d_Mo_pace_45 (by decide) ?_
        refine wp_iinc (v := _ + 1) (ls' := [_, _, _, _]) d_Mo_pace_76 (by decide) rfl rfl rfl ?_
        refine wp_goto (t := 13) d_Mo_pace_79 (by decide) ?_
        rw [en]
        refine ih (j + 1) _ _ (by omega) (fun f2 => ?_)
        have h2 := hq f2
        first
          | (rw [show sp_add (sp_fact (A 5) (A 6) (A 7) m p) n cl[j] = n from if_neg (fun z => absurd z.1 (Nat.not_le.mpr (by rcases Nat.lt_or_ge 1 cl[j].1 with z1 | z1; exact z1; exact absurd c_28 (nI_nlt (a := 1) (b := cl[j].1) z1 (by decide)))))] at h2; exact h2)
          | (rw [show sp_add (sp_fact (A 5) (A 6) (A 7) m p) n cl[j] = n from if_neg (fun z => by have c' : bI (sp_tr (sp_fact (A 5) (A 6) (A 7) m p) cl[j].2.2) = 0 := c_42; rw [z.2] at c'; exact absurd c' (by decide))] at h2; exact h2)
          | (rw [show sp_add (sp_fact (A 5) (A 6) (A 7) m p) n cl[j] = n + nI cl[j].2.1 from (if_pos ⟨hw1, htr⟩).trans (if_pos ((nI_eq (b := 0) (by omega) (by decide)).mp c_55))] at h2; exact h2)
          | (rw [show sp_add (sp_fact (A 5) (A 6) (A 7) m p) n cl[j] = n + -nI cl[j].2.1 from (if_pos ⟨hw1, htr⟩).trans (if_neg (fun z => c_55 (by rw [z]; rfl)))] at h2; exact h2)
set_option maxRecDepth 4000 in
theorem c_Mo_pace {b m p : Nat} {cl : List sp_Cl} (hD : 2 ≤ D) (h : mo_cur I A b cl) (hm : m < 6) (hp6 : p < 6) (hch : A 10 p = nI m) (k : ∀ f : Nat → Int32, Q (some (.int (sp_pace (sp_fact (A 5) (A 6) (A 7) m p) cl))) (HM X (upd I 29 (nI p)) (va_up A 28 f) L E)) : px_W G D 0 0 m_Mo_pace 0 (px_ent 4 [.ref X.length, .int (nI p)]) [] (HM X I A L E) Q := by
  show px_W _ _ _ _ _ _ [some (.ref X.length), some (.int (nI p)), none, none] [] _ _
  refine wp_aload_n d_Mo_pace_0 rfl rfl rfl ?_
  refine wp_iload_n d_Mo_pace_1 rfl rfl ?_
  refine pM_29 rfl d_Mo_pace_2 ?_
  refine wp_bipush (v := 8) d_Mo_pace_5 (by decide) ?_
  refine wp_istore_n (ls' := [_, _, _, _]) d_Mo_pace_7 rfl (by decide) rfl ?_
  have h1 : mo_cur (upd I 29 (nI p)) A b cl := h.ms (ms.rf.i 29 (SI := [29]) (SA := []) (by decide) (nI p)) (by decide) (by decide)
  refine wp_aload_n d_Mo_pace_8 rfl rfl rfl ?_
  refine wp_callV (r := (R_12, T_12, 70)) (M' := m_Mo_begin) (as := []) (D' := D - 1) (C1 := 0) (C2 := 0) (S1 := 0) (S2 := 0) d_Mo_pace_9 rfl w_1309 w_1311 w_34 hm_0 k_Mo_begin (Nat.le_of_ble_eq_true rfl) rfl (Nat.le_of_ble_eq_true rfl) (by omega) rfl rfl ?_
  refine c_Mo_begin (by omega) h1 ?_
  refine wp_istore_n (ls' := [_, _, _, _]) d_Mo_pace_12 rfl (by decide) rfl ?_
  rw [show HM X (upd I 29 (nI p)) A L E = HM X (upd I 29 (nI p)) (va_up A 28 (A 28)) L E from by rw [va_us]]
  exact l_Mo_pace_13 (by omega) h1 hm hp6 rfl hch cl.length 0 8 (A 28) (by omega) k
set_option maxHeartbeats 1000000 in
set_option maxRecDepth 4000 in
theorem c_Mo_holdsFor {b m p hh : Nat} {cl : List sp_Cl} (hD : 3 ≤ D) (h : mo_cur I A b cl) (hm : m < 6) (hp6 : p < 6) (hch : A 10 p = nI m) (hhl : hh < 2 ^ 31) (ehh : A 7 m = nI hh) (k : ∀ f : Nat → Int32, Q (some (.int (sp_holds (A 5 m) (A 6 m) (A 7 m) (A 9 (4 * m + (A 7 m).toNatClampNeg % 4)) (sp_pace (sp_fact (A 5) (A 6) (A 7) m p) cl)))) (HM X (upd I 29 (nI p)) (va_up A 28 f) L E)) : px_W G D 0 0 m_Mo_holdsFor 0 (px_ent 4 [.ref X.length, .int (nI p)]) [] (HM X I A L E) Q := by
  show px_W _ _ _ _ _ _ [some (.ref X.length), some (.int (nI p)), none, none] [] _ _
  refine wp_aload_n d_Mo_holdsFor_0 rfl rfl rfl ?_
  refine gM_10 rfl d_Mo_holdsFor_1 ?_
  refine wp_iload_n d_Mo_holdsFor_4 rfl rfl ?_
  refine lM_10 d_Mo_holdsFor_5 (vp_in_nI (by omega) (by decide)) ?_
  rw [show A 10 (nI p).toNatClampNeg = nI m from by rw [nI_clamp (by omega)]; exact hch]
  refine wp_istore_n (ls' := [_, _, _, _]) d_Mo_holdsFor_6 rfl (by decide) rfl ?_
  refine wp_aload_n d_Mo_holdsFor_7 rfl rfl rfl ?_
  refine wp_iload_n d_Mo_holdsFor_8 rfl rfl ?_
  refine wp_callV (r := (R_12, T_12, 70)) (M' := m_Mo_pace) (as := [_]) (D' := D - 1) (C1 := 0) (C2 := 0) (S1 := 0) (S2 := 0) d_Mo_holdsFor_9 rfl w_1305 w_1307 w_33 hm_0 k_Mo_pace (Nat.le_of_ble_eq_true rfl) rfl (Nat.le_of_ble_eq_true rfl) (by omega) rfl rfl ?_
  refine c_Mo_pace (by omega) h hm hp6 hch (fun f => ?_)
  refine wp_istore_n (ls' := [_, _, _, _]) d_Mo_holdsFor_12 rfl (by decide) rfl ?_
  refine wp_aload_n d_Mo_holdsFor_13 rfl rfl rfl ?_
  refine gM_5 rfl d_Mo_holdsFor_14 ?_
  refine wp_iload_n d_Mo_holdsFor_17 rfl rfl ?_
  refine lM_5 d_Mo_holdsFor_18 (vp_in_nI (by omega) (by decide)) ?_
  have e5 : va_up A 28 f 5 (nI m).toNatClampNeg = A 5 m := by rw [nI_clamp (by omega)]; rfl
  rw [e5]
  refine wp_topi (fun y_19 e_19 => ?_)
  by_cases s_19_1 : y_19 = 1
  · rw [s_19_1]
    refine wp_tableIn (off := 37) (t := 56) d_Mo_holdsFor_19 (by decide) (by decide) rfl (by decide) ?_
    refine wp_aload_n d_Mo_holdsFor_56 rfl rfl rfl ?_
    refine wp_iload_n d_Mo_holdsFor_57 rfl rfl ?_
    refine wp_iload_n d_Mo_holdsFor_58 rfl rfl ?_
    refine wp_callV (r := (R_12, T_12, 70)) (M' := m_Mo_strongly) (as := [_, _]) (D' := D - 1) (C1 := 0) (C2 := 0) (S1 := 0) (S2 := 0) d_Mo_holdsFor_59 rfl w_1333 w_1335 w_40 hm_0 k_Mo_strongly (Nat.le_of_ble_eq_true rfl) rfl (Nat.le_of_ble_eq_true rfl) (by omega) rfl rfl ?_
    refine c_Mo_strongly (by omega) (vp_in_nI (by omega) (by decide)) ?_
    refine wp_ireturn d_Mo_holdsFor_62 rfl rfl ?_
    have hk : A 5 m = 1 := e_19.symm.trans s_19_1
    have hv : (sp_holds (A 5 m) (A 6 m) (A 7 m) (A 9 (4 * m + (A 7 m).toNatClampNeg % 4)) (sp_pace (sp_fact (A 5) (A 6) (A 7) m p) cl)) = sp_strong (A 6 m) (sp_pace (sp_fact (A 5) (A 6) (A 7) m p) cl) := by rw [hk]; rfl
    rw [hv] at k
    rw [nI_clamp (by omega)]
    exact k f
  by_cases s_19_2 : y_19 = 2
  · rw [s_19_2]
    refine wp_tableIn (off := 44) (t := 63) d_Mo_holdsFor_19 (by decide) (by decide) rfl (by decide) ?_
    refine wp_iload_n d_Mo_holdsFor_63 rfl rfl ?_
    refine wp_iconst (v := 2) d_Mo_holdsFor_64 rfl ?_
    refine wp_iadd d_Mo_holdsFor_65 ?_
    refine wp_ireturn d_Mo_holdsFor_66 rfl rfl ?_
    have hv : (sp_holds (A 5 m) (A 6 m) (A 7 m) (A 9 (4 * m + (A 7 m).toNatClampNeg % 4)) (sp_pace (sp_fact (A 5) (A 6) (A 7) m p) cl)) = sp_pace (sp_fact (A 5) (A 6) (A 7) m p) cl + 2 := by
      first
        | (rw [show A 5 m = 2 from e_19.symm.trans s_19_2]; rfl)
        | (rw [show A 5 m = 5 from e_19.symm.trans s_19_5]; rfl)
    rw [hv] at k
    exact k f
  by_cases s_19_3 : y_19 = 3
  · rw [s_19_3]
    refine wp_tableIn (off := 48) (t := 67) d_Mo_holdsFor_19 (by decide) (by decide) rfl (by decide) ?_
    refine wp_iload_n d_Mo_holdsFor_67 rfl rfl ?_
    refine wp_aload_n d_Mo_holdsFor_68 rfl rfl rfl ?_
    refine gM_7 rfl d_Mo_holdsFor_69 ?_
    refine wp_iload_n d_Mo_holdsFor_72 rfl rfl ?_
    refine lM_7 d_Mo_holdsFor_73 (vp_in_nI (by omega) (by decide)) ?_
    refine wp_bipush (v := 8) d_Mo_holdsFor_74 (by decide) ?_
    refine wp_idiv d_Mo_holdsFor_76 (by decide) ?_
    refine wp_iadd d_Mo_holdsFor_77 ?_
    refine wp_ireturn d_Mo_holdsFor_78 rfl rfl ?_
    have hk : A 5 m = 3 := e_19.symm.trans s_19_3
    have hv : (sp_holds (A 5 m) (A 6 m) (A 7 m) (A 9 (4 * m + (A 7 m).toNatClampNeg % 4)) (sp_pace (sp_fact (A 5) (A 6) (A 7) m p) cl)) = sp_pace (sp_fact (A 5) (A 6) (A 7) m p) cl + A 7 m / 8 := by rw [hk]; rfl
    rw [hv] at k
    rw [nI_clamp (by omega)]
    exact k f
  by_cases s_19_4 : y_19 = 4
  · rw [s_19_4]
    refine wp_tableIn (off := 60) (t := 79) d_Mo_holdsFor_19 (by decide) (by decide) rfl (by decide) ?_
    refine wp_aload_n d_Mo_holdsFor_79 rfl rfl rfl ?_
    refine wp_aload_n d_Mo_holdsFor_80 rfl rfl rfl ?_
    refine wp_iload_n d_Mo_holdsFor_81 rfl rfl ?_
    refine wp_iload_n d_Mo_holdsFor_82 rfl rfl ?_
    refine wp_callV (r := (R_12, T_12, 70)) (M' := m_Mo_strongly) (as := [_, _]) (D' := D - 1) (C1 := 0) (C2 := 0) (S1 := 0) (S2 := 0) d_Mo_holdsFor_83 rfl w_1333 w_1335 w_40 hm_0 k_Mo_strongly (Nat.le_of_ble_eq_true rfl) rfl (Nat.le_of_ble_eq_true rfl) (by omega) rfl rfl ?_
    refine c_Mo_strongly (by omega) (vp_in_nI (by omega) (by decide)) ?_
    refine wp_iconst (v := 2) d_Mo_holdsFor_86 rfl ?_
    refine wp_idiv d_Mo_holdsFor_87 (by decide) ?_
    refine wp_callV (r := (R_12, T_12, 70)) (M' := m_Mo_atLeastOne) (as := [_]) (D' := D - 1) (C1 := 0) (C2 := 0) (S1 := 0) (S2 := 0) d_Mo_holdsFor_88 rfl w_1325 w_1327 w_38 hm_0 k_Mo_atLeastOne (Nat.le_of_ble_eq_true rfl) rfl (Nat.le_of_ble_eq_true rfl) (by omega) rfl rfl ?_
    refine c_Mo_atLeastOne (by omega)  ?_
    refine wp_ireturn d_Mo_holdsFor_91 rfl rfl ?_
    have hk : A 5 m = 4 := e_19.symm.trans s_19_4
    have hv : (sp_holds (A 5 m) (A 6 m) (A 7 m) (A 9 (4 * m + (A 7 m).toNatClampNeg % 4)) (sp_pace (sp_fact (A 5) (A 6) (A 7) m p) cl)) = sp_one (sp_strong (A 6 m) (sp_pace (sp_fact (A 5) (A 6) (A 7) m p) cl) / 2) := by rw [hk]; rfl
    rw [hv] at k
    rw [nI_clamp (by omega)]
    exact k f
  by_cases s_19_5 : y_19 = 5
  · rw [s_19_5]
    refine wp_tableIn (off := 44) (t := 63) d_Mo_holdsFor_19 (by decide) (by decide) rfl (by decide) ?_
    refine wp_iload_n d_Mo_holdsFor_63 rfl rfl ?_
    refine wp_iconst (v := 2) d_Mo_holdsFor_64 rfl ?_
    refine wp_iadd d_Mo_holdsFor_65 ?_
    refine wp_ireturn d_Mo_holdsFor_66 rfl rfl ?_
    have hv : (sp_holds (A 5 m) (A 6 m) (A 7 m) (A 9 (4 * m + (A 7 m).toNatClampNeg % 4)) (sp_pace (sp_fact (A 5) (A 6) (A 7) m p) cl)) = sp_pace (sp_fact (A 5) (A 6) (A 7) m p) cl + 2 := by
      first
        | (rw [show A 5 m = 2 from e_19.symm.trans s_19_2]; rfl)
        | (rw [show A 5 m = 5 from e_19.symm.trans s_19_5]; rfl)
    rw [hv] at k
    exact k f
  by_cases s_19_6 : y_19 = 6
  · rw [s_19_6]
    refine wp_tableIn (off := 73) (t := 92) d_Mo_holdsFor_19 (by decide) (by decide) rfl (by decide) ?_
    refine wp_iload_n d_Mo_holdsFor_92 rfl rfl ?_
    refine wp_aload_n d_Mo_holdsFor_93 rfl rfl rfl ?_
    refine gM_7 rfl d_Mo_holdsFor_94 ?_
    refine wp_iload_n d_Mo_holdsFor_97 rfl rfl ?_
    refine lM_7 d_Mo_holdsFor_98 (vp_in_nI (by omega) (by decide)) ?_
    refine wp_bipush (v := 8) d_Mo_holdsFor_99 (by decide) ?_
    refine wp_idiv d_Mo_holdsFor_101 (by decide) ?_
    refine wp_iadd d_Mo_holdsFor_102 ?_
    refine wp_aload_n d_Mo_holdsFor_103 rfl rfl rfl ?_
    refine gM_9 rfl d_Mo_holdsFor_104 ?_
    refine wp_iconst (v := 4) d_Mo_holdsFor_107 rfl ?_
    refine wp_iload_n d_Mo_holdsFor_108 rfl rfl ?_
    refine wp_imul d_Mo_holdsFor_109 ?_
    refine wp_aload_n d_Mo_holdsFor_110 rfl rfl rfl ?_
    refine gM_7 rfl d_Mo_holdsFor_111 ?_
    refine wp_iload_n d_Mo_holdsFor_114 rfl rfl ?_
    refine lM_7 d_Mo_holdsFor_115 (vp_in_nI (by omega) (by decide)) ?_
    refine wp_iconst (v := 4) d_Mo_holdsFor_116 rfl ?_
    refine wp_irem d_Mo_holdsFor_117 (by decide) ?_
    refine wp_iadd d_Mo_holdsFor_118 ?_
    have ix : (4 : Int32) * nI m + (va_up A 28 f 7 (nI m).toNatClampNeg - va_up A 28 f 7 (nI m).toNatClampNeg / 4 * 4) = nI (4 * m + hh % 4) := by
      rw [show va_up A 28 f 7 (nI m).toNatClampNeg = nI hh from by rw [nI_clamp (by omega)]; exact ehh, show (4 : Int32) * nI m = nI (4 * m) from pk_mul 4 m, show nI hh - nI hh / 4 * 4 = nI (hh % 4) from pk_rem hhl (by decide) (by decide)]
      exact nI_add _ _
    refine lM_9 d_Mo_holdsFor_119 (by rw [ix]; exact vp_in_nI (by have := Nat.mod_lt hh (show 0 < 4 by decide); omega) (by decide)) ?_
    refine wp_iadd d_Mo_holdsFor_120 ?_
    refine wp_ireturn d_Mo_holdsFor_121 rfl rfl ?_
    have hk : A 5 m = 6 := e_19.symm.trans s_19_6
    have hv : (sp_holds (A 5 m) (A 6 m) (A 7 m) (A 9 (4 * m + (A 7 m).toNatClampNeg % 4)) (sp_pace (sp_fact (A 5) (A 6) (A 7) m p) cl)) = sp_pace (sp_fact (A 5) (A 6) (A 7) m p) cl + A 7 m / 8 + A 9 (4 * m + (A 7 m).toNatClampNeg % 4) := by rw [hk]; rfl
    rw [hv, ehh, nI_clamp hhl] at k
    rw [ix, nI_clamp (n := 4 * m + hh % 4) (by omega), show va_up A 28 f 7 (nI m).toNatClampNeg = nI hh from by rw [nI_clamp (by omega)]; exact ehh]
    exact k f
  have n_19_1 : y_19.toInt ≠ 1 := lv_neT s_19_1 rfl
  have n_19_2 : y_19.toInt ≠ 2 := lv_neT s_19_2 rfl
  have n_19_3 : y_19.toInt ≠ 3 := lv_neT s_19_3 rfl
  have n_19_4 : y_19.toInt ≠ 4 := lv_neT s_19_4 rfl
  have n_19_5 : y_19.toInt ≠ 5 := lv_neT s_19_5 rfl
  have n_19_6 : y_19.toInt ≠ 6 := lv_neT s_19_6 rfl
  refine wp_tableOut (t := 122) d_Mo_holdsFor_19 (by omega) (by decide) ?_
  refine wp_iload_n d_Mo_holdsFor_122 rfl rfl ?_
  refine wp_ireturn d_Mo_holdsFor_123 rfl rfl ?_
  have hv : (sp_holds (A 5 m) (A 6 m) (A 7 m) (A 9 (4 * m + (A 7 m).toNatClampNeg % 4)) (sp_pace (sp_fact (A 5) (A 6) (A 7) m p) cl)) = sp_pace (sp_fact (A 5) (A 6) (A 7) m p) cl := by
    unfold sp_holds
    rw [if_neg (fun z => s_19_1 (e_19.trans z)), if_neg (fun z => z.elim (fun z => s_19_2 (e_19.trans z)) (fun z => s_19_5 (e_19.trans z))), if_neg (fun z => s_19_3 (e_19.trans z)), if_neg (fun z => s_19_4 (e_19.trans z)), if_neg (fun z => s_19_6 (e_19.trans z))]
  rw [hv] at k
  exact k f
set_option maxRecDepth 4000 in
theorem l_Mo_placeOf_2 {m p : Nat} (hp6 : p < 6) (hch : A 10 p = nI m) (hmin : ∀ j, j < p → A 10 j ≠ nI m) (k : Q (some (.int (nI p))) (HM X I A L E)) : ∀ (q j : Nat), j + q = p → px_W G D 0 0 m_Mo_placeOf 2 [some (.ref X.length), some (.int (nI m)), some (.int (nI j))] [] (HM X I A L E) Q := by
  intro q
  induction q with
  | zero =>
    intro j hj
    have hjp : j = p := by omega
    subst hjp
    refine wp_aload_n d_Mo_placeOf_2 rfl rfl rfl ?_
    refine gM_10 rfl d_Mo_placeOf_3 ?_
    refine wp_iload_n d_Mo_placeOf_6 rfl rfl ?_
    refine lM_10 d_Mo_placeOf_7 (vp_in_nI (by omega) (by decide)) ?_
    refine wp_iload_n d_Mo_placeOf_8 rfl rfl ?_
    refine wp_icmp_eq (t := 18) d_Mo_placeOf_9 (by decide) (fun c_9 => ?_) (fun c_9 => absurd (by rw [nI_clamp (by omega)]; exact hch) c_9)
    refine wp_iload_n d_Mo_placeOf_18 rfl rfl ?_
    refine wp_ireturn d_Mo_placeOf_19 rfl rfl ?_
    exact k
  | succ q ih =>
    intro j hj
    refine wp_aload_n d_Mo_placeOf_2 rfl rfl rfl ?_
    refine gM_10 rfl d_Mo_placeOf_3 ?_
    refine wp_iload_n d_Mo_placeOf_6 rfl rfl ?_
    refine lM_10 d_Mo_placeOf_7 (vp_in_nI (by omega) (by decide)) ?_
    refine wp_iload_n d_Mo_placeOf_8 rfl rfl ?_
    refine wp_icmp_eq (t := 18) d_Mo_placeOf_9 (by decide) (fun c_9 => absurd (by rw [nI_clamp (by omega)] at c_9; exact c_9) (hmin j (by omega))) (fun c_9 => ?_)
    refine wp_iinc (v := _ + 1) (ls' := [_, _, _]) d_Mo_placeOf_12 (by decide) rfl rfl rfl ?_
    refine wp_goto (t := 2) d_Mo_placeOf_15 (by decide) ?_
    rw [show nI j + 1 = nI (j + 1) from nI_1 j]
    exact ih (j + 1) (by omega)
set_option maxRecDepth 4000 in
theorem c_Mo_placeOf {m p : Nat} (hD : 0 ≤ D) (hp6 : p < 6) (hch : A 10 p = nI m) (hmin : ∀ j, j < p → A 10 j ≠ nI m) (k : Q (some (.int (nI p))) (HM X I A L E)) : px_W G D 0 0 m_Mo_placeOf 0 (px_ent 3 [.ref X.length, .int (nI m)]) [] (HM X I A L E) Q := by
  show px_W _ _ _ _ _ _ [some (.ref X.length), some (.int (nI m)), none] [] _ _
  refine wp_iconst (v := 0) d_Mo_placeOf_0 rfl ?_
  refine wp_istore_n (ls' := [_, _, _]) d_Mo_placeOf_1 rfl (by decide) rfl ?_
  exact l_Mo_placeOf_2 hp6 hch hmin k p 0 (by omega)
end MO4
