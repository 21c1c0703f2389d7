/-! TUBES asked: tenth, HELD, FREE, how many are up, which as bits, when the latest, how many each let fall -/
abbrev sp_LS : Type := Int32 × (Nat → Int32) × (Nat → Int32) × Int32 × Int32 × Int32 × (Nat → Int32)
def sp_bt (b r : Int32) (j k : Nat) : Int32 := if 0 < j ∧ (k + 1) % j = 0 then b + r else b
def sp_l1 (s : sp_St) (t0 b r : Int32) (j k : Nat) (z : sp_LS) : sp_LS :=
  (z.1 + sp_bt b r j k, (sp_throw s 2000000000 z.1 z.2.1 z.2.2.1).2.2.1, (sp_throw s 2000000000 z.1 z.2.1 z.2.2.1).2.2.2, match (sp_throw s 2000000000 z.1 z.2.1 z.2.2.1).1 with
    | none => (z.2.2.2.1 + 1, z.2.2.2.2.1 ||| (1 <<< (nI k &&& 31)), (if z.2.2.2.2.2.1 < (sp_throw s 2000000000 z.1 z.2.1 z.2.2.1).2.1 - t0 then (sp_throw s 2000000000 z.1 z.2.1 z.2.2.1).2.1 - t0 else z.2.2.2.2.2.1), z.2.2.2.2.2.2)
    | some m => (z.2.2.2.1, z.2.2.2.2.1, z.2.2.2.2.2.1, upd z.2.2.2.2.2.2 m (z.2.2.2.2.2.2 m + 1)))
def sp_ly (s : sp_St) (t0 b r : Int32) (j : Nat) : Nat → Nat → sp_LS → sp_LS
  | 0, _, z => z
  | q + 1, k, z => sp_ly s t0 b r j q (k + 1) (sp_l1 s t0 b r j k z)
/-- how many, which, when, by whom of n tubes with b (j, r: a rest of r behind each j-th) -/
def sp_lay (s : sp_St) (t0 : Int32) (held free : Nat → Int32) (d0 : Nat → Int32) (n : Nat) (b r : Int32) (j : Nat) : sp_LS := sp_ly s t0 b r j n 0 (t0, held, free, 0, 0, 0, d0)
theorem sp_go_out {s : sp_St} {c : Int32} {x : Nat} : ∀ (q p : Nat) (t : Int32) (held free : Nat → Int32), (∀ i, p ≤ i → i < p + q → s.2.2.2.1 i ≠ x) → (sp_go s c q p t held free).2.2.1 x = held x ∧ (sp_go s c q p t held free).2.2.2 x = free x := by
  intro q
  induction q with
  | zero => intro p t held free _; exact ⟨rfl, rfl⟩
  | succ q ih =>
    intro p t held free h
    have hp : x ≠ s.2.2.2.1 p := fun e => h p (Nat.le_refl _) (by omega) e.symm
    by_cases c1 : t < free (s.2.2.2.1 p)
    · rw [sp_go_f c1]; exact ⟨rfl, rfl⟩
    · by_cases c2 : s.1 (s.2.2.2.1 p) = 5 ∧ (held (s.2.2.2.1 p) + 1) - (held (s.2.2.2.1 p) + 1) / (s.2.1 (s.2.2.2.1 p) + 2) * (s.2.1 (s.2.2.2.1 p) + 2) = 0
      · rw [sp_go_l c1 c2]; exact ⟨if_neg hp, rfl⟩
      · rw [sp_go_s c1 c2]
        have := ih (p + 1) (t + (sp_hold s held p + sp_rise s.2.2.2.2.2)) (upd held (s.2.2.2.1 p) (sp_inc c (held (s.2.2.2.1 p)))) (upd free (s.2.2.2.1 p) (t + sp_hold s held p + sp_rest s.2.2.2.2.2)) (fun i h1 h2 => h i (by omega) (by omega))
        exact ⟨this.1.trans (if_neg hp), this.2.trans (if_neg hp)⟩
theorem mo_w_ms2 {SI SA : List Nat} {I I' : Nat → Int32} {A A' : Nat → Nat → Int32} {n b : Nat} {ln : Nat → Nat} {cl : List sp_Cl} (h : mo_w I A n ln b cl) (hm : ms SI SA I I' A A') (h32 : ∃ mt, mt < 2 ^ 31 ∧ I' 32 = nI mt) (h0 : 1 ∉ SI ∧ 12 ∉ SI) (h1 : 6 ∉ SA ∧ 10 ∉ SA ∧ 17 ∉ SA ∧ 18 ∉ SA ∧ 19 ∉ SA ∧ 20 ∉ SA ∧ 21 ∉ SA ∧ 22 ∉ SA) : mo_w I' A' n ln b cl := by
  obtain ⟨a1, a2, a3, a4, a5, a6⟩ := h
  refine ⟨a1, ?_, ?_, ?_, a5.ms hm h0.2 h1.2.2, h32⟩
  · rw [hm.1 1 h0.1]; exact a2
  · rw [hm.2 10 h1.2.1]; exact a3
  · rw [hm.2 6 h1.1]; exact a4
def mo_sv (A : Nat → Nat → Int32) (i : Nat) : Nat → Nat → Int32 := fun k => if k = 34 then sp_cp (A 7) (A 34) i else if k = 35 then sp_cp (A 8) (A 35) i else A k
theorem mo_sv_s {A : Nat → Nat → Int32} {i : Nat} : (va_up (va_up (mo_sv A i) 34 (upd (sp_cp (A 7) (A 34) i) i (A 7 i))) 35 (upd (sp_cp (A 8) (A 35) i) i (A 8 i))) = mo_sv A (i + 1) := by
  simp only [sp_cp_s]
  funext k
  simp only [va_up, mo_sv]
  by_cases h35 : k = 35
  · subst h35; rfl
  by_cases h34 : k = 34
  · subst h34; rfl
  simp only [if_neg h34, if_neg h35]
theorem mo_sv_0 {A : Nat → Nat → Int32} : mo_sv A 0 = A := by
  funext k
  simp only [mo_sv, sp_cp_0]
  by_cases h34 : k = 34
  · subst h34; rfl
  by_cases h35 : k = 35
  · subst h35; rfl
  simp only [if_neg h34, if_neg h35]
def mo_pb (A : Nat → Nat → Int32) (i : Nat) : Nat → Nat → Int32 := fun k => if k = 7 then sp_cp (A 34) (A 7) i else if k = 8 then sp_cp (A 35) (A 8) i else A k
theorem mo_pb_s {A : Nat → Nat → Int32} {i : Nat} : (va_up (va_up (mo_pb A i) 7 (upd (sp_cp (A 34) (A 7) i) i (A 34 i))) 8 (upd (sp_cp (A 35) (A 8) i) i (A 35 i))) = mo_pb A (i + 1) := by
  simp only [sp_cp_s]
  funext k
  simp only [va_up, mo_pb]
  by_cases h8 : k = 8
  · subst h8; rfl
  by_cases h7 : k = 7
  · subst h7; rfl
  simp only [if_neg h7, if_neg h8]
theorem mo_pb_0 {A : Nat → Nat → Int32} : mo_pb A 0 = A := by
  funext k
  simp only [mo_pb, sp_cp_0]
  by_cases h7 : k = 7
  · subst h7; rfl
  by_cases h8 : k = 8
  · subst h8; rfl
  simp only [if_neg h7, if_neg h8]
section MOB
variable {G : px_G} {D : Nat} {X E : px_H} {I : Nat → Int32} {A : Nat → Nat → Int32} {L : Nat → Nat → Int64} {Q : Option Value → px_H → Prop}
set_option maxRecDepth 4000 in
theorem l_Mo_save_17 (k : Q none (HM X I (mo_sv A 6) L E)) : ∀ (q i : Nat), i + q = 6 → px_W G D 0 0 m_Mo_save 17 [some (.ref X.length), some (.int (nI i))] [] (HM X I (mo_sv A i) L E) Q := by
  intro q
  induction q with
  | zero =>
    intro i hi
    have hi6 : i = 6 := by omega
    subst hi6
    refine wp_iload_n d_Mo_save_17 rfl rfl ?_
    refine wp_bipush (v := 6) d_Mo_save_18 (by decide) ?_
    refine wp_icmp_ge (t := 53) d_Mo_save_20 (by decide) (fun c_20 => ?_) (fun c_20 => absurd (by decide) c_20)
    refine wp_return d_Mo_save_53 rfl ?_
    exact k
  | succ q ih =>
    intro i hi
    refine wp_iload_n d_Mo_save_17 rfl rfl ?_
    refine wp_bipush (v := 6) d_Mo_save_18 (by decide) ?_
    refine wp_icmp_ge (t := 53) d_Mo_save_20 (by decide) (fun c_20 => absurd c_20 (nI_ge (b := 6) (by omega) (by decide))) (fun c_20 => ?_)
    refine wp_aload_n d_Mo_save_23 rfl rfl rfl ?_
    refine gM_34 rfl d_Mo_save_24 ?_
    refine wp_iload_n d_Mo_save_27 rfl rfl ?_
    refine wp_aload_n d_Mo_save_28 rfl rfl rfl ?_
    refine gM_7 rfl d_Mo_save_29 ?_
    refine wp_iload_n d_Mo_save_32 rfl rfl ?_
    refine lM_7 d_Mo_save_33 (vp_in_nI (by omega) (by decide)) ?_
    refine sM_34 d_Mo_save_34 (vp_in_nI (by omega) (by decide)) ?_
    refine wp_aload_n d_Mo_save_35 rfl rfl rfl ?_
    refine gM_35 rfl d_Mo_save_36 ?_
    refine wp_iload_n d_Mo_save_39 rfl rfl ?_
    refine wp_aload_n d_Mo_save_40 rfl rfl rfl ?_
    refine gM_8 rfl d_Mo_save_41 ?_
    refine wp_iload_n d_Mo_save_44 rfl rfl ?_
    refine lM_8 d_Mo_save_45 (vp_in_nI (by omega) (by decide)) ?_
    refine sM_35 d_Mo_save_46 (vp_in_nI (by omega) (by decide)) ?_
    refine wp_iinc (v := _ + 1) (ls' := [_, _]) d_Mo_save_47 (by decide) rfl rfl rfl ?_
    refine wp_goto (t := 17) d_Mo_save_50 (by decide) ?_
    rw [show nI i + 1 = nI (i + 1) from nI_1 i]
    simp only [nI_clamp (show i < 2 ^ 31 by omega)]
    refine (show px_W G D 0 0 m_Mo_save 17 [some (.ref X.length), some (.int (nI (i + 1)))] [] (HM X I (va_up (va_up (mo_sv A i) 34 (upd (sp_cp (A 7) (A 34) i) i (A 7 i))) 35 (upd (sp_cp (A 8) (A 35) i) i (A 8 i))) L E) Q from ?_)
    rw [mo_sv_s]
    exact ih (i + 1) (by omega)
set_option maxRecDepth 4000 in
theorem c_Mo_save  (hD : 0 ≤ D) (k : Q none (HM X (upd (upd I 32 2000000000) 33 (I 2)) (mo_sv A 6) L E)) : px_W G D 0 0 m_Mo_save 0 (px_ent 2 [.ref X.length]) [] (HM X I A L E) Q := by
  show px_W _ _ _ _ _ _ [some (.ref X.length), none] [] _ _
  refine wp_aload_n d_Mo_save_0 rfl rfl rfl ?_
  refine wp_ldcw d_Mo_save_1 w_1390 ?_
  refine pM_32 rfl d_Mo_save_4 ?_
  refine wp_aload_n d_Mo_save_7 rfl rfl rfl ?_
  refine wp_aload_n d_Mo_save_8 rfl rfl rfl ?_
  refine gM_2 rfl d_Mo_save_9 ?_
  refine pM_33 rfl d_Mo_save_12 ?_
  refine wp_iconst (v := 0) d_Mo_save_15 rfl ?_
  refine wp_istore_n (ls' := [_, _]) d_Mo_save_16 rfl (by decide) rfl ?_
  rw [show ∀ J : Nat → Int32, HM X J A L E = HM X J (mo_sv A 0) L E from fun J => by rw [mo_sv_0]]
  exact l_Mo_save_17 k 6 0 (by omega)
set_option maxRecDepth 4000 in
theorem l_Mo_putBack_17 (k : Q none (HM X I (mo_pb A 6) L E)) : ∀ (q i : Nat), i + q = 6 → px_W G D 0 0 m_Mo_putBack 17 [some (.ref X.length), some (.int (nI i))] [] (HM X I (mo_pb A i) L E) Q := by
  intro q
  induction q with
  | zero =>
    intro i hi
    have hi6 : i = 6 := by omega
    subst hi6
    refine wp_iload_n d_Mo_putBack_17 rfl rfl ?_
    refine wp_bipush (v := 6) d_Mo_putBack_18 (by decide) ?_
    refine wp_icmp_ge (t := 53) d_Mo_putBack_20 (by decide) (fun c_20 => ?_) (fun c_20 => absurd (by decide) c_20)
    refine wp_return d_Mo_putBack_53 rfl ?_
    exact k
  | succ q ih =>
    intro i hi
    refine wp_iload_n d_Mo_putBack_17 rfl rfl ?_
    refine wp_bipush (v := 6) d_Mo_putBack_18 (by decide) ?_
    refine wp_icmp_ge (t := 53) d_Mo_putBack_20 (by decide) (fun c_20 => absurd c_20 (nI_ge (b := 6) (by omega) (by decide))) (fun c_20 => ?_)
    refine wp_aload_n d_Mo_putBack_23 rfl rfl rfl ?_
    refine gM_7 rfl d_Mo_putBack_24 ?_
    refine wp_iload_n d_Mo_putBack_27 rfl rfl ?_
    refine wp_aload_n d_Mo_putBack_28 rfl rfl rfl ?_
    refine gM_34 rfl d_Mo_putBack_29 ?_
    refine wp_iload_n d_Mo_putBack_32 rfl rfl ?_
    refine lM_34 d_Mo_putBack_33 (vp_in_nI (by omega) (by decide)) ?_
    refine sM_7 d_Mo_putBack_34 (vp_in_nI (by omega) (by decide)) ?_
    refine wp_aload_n d_Mo_putBack_35 rfl rfl rfl ?_
    refine gM_8 rfl d_Mo_putBack_36 ?_
    refine wp_iload_n d_Mo_putBack_39 rfl rfl ?_
    refine wp_aload_n d_Mo_putBack_40 rfl rfl rfl ?_
    refine gM_35 rfl d_Mo_putBack_41 ?_
    refine wp_iload_n d_Mo_putBack_44 rfl rfl ?_
    refine lM_35 d_Mo_putBack_45 (vp_in_nI (by omega) (by decide)) ?_
    refine sM_8 d_Mo_putBack_46 (vp_in_nI (by omega) (by decide)) ?_
    refine wp_iinc (v := _ + 1) (ls' := [_, _]) d_Mo_putBack_47 (by decide) rfl rfl rfl ?_
    refine wp_goto (t := 17) d_Mo_putBack_50 (by decide) ?_
    rw [show nI i + 1 = nI (i + 1) from nI_1 i]
    simp only [nI_clamp (show i < 2 ^ 31 by omega)]
    refine (show px_W G D 0 0 m_Mo_putBack 17 [some (.ref X.length), some (.int (nI (i + 1)))] [] (HM X I (va_up (va_up (mo_pb A i) 7 (upd (sp_cp (A 34) (A 7) i) i (A 34 i))) 8 (upd (sp_cp (A 35) (A 8) i) i (A 35 i))) L E) Q from ?_)
    rw [mo_pb_s]
    exact ih (i + 1) (by omega)
set_option maxRecDepth 4000 in
theorem c_Mo_putBack  (hD : 0 ≤ D) (k : Q none (HM X (upd (upd I 32 9999) 2 (I 33)) (mo_pb A 6) L E)) : px_W G D 0 0 m_Mo_putBack 0 (px_ent 2 [.ref X.length]) [] (HM X I A L E) Q := by
  show px_W _ _ _ _ _ _ [some (.ref X.length), none] [] _ _
  refine wp_aload_n d_Mo_putBack_0 rfl rfl rfl ?_
  refine wp_sipush (v := 9999) d_Mo_putBack_1 (by decide) ?_
  refine pM_32 rfl d_Mo_putBack_4 ?_
  refine wp_aload_n d_Mo_putBack_7 rfl rfl rfl ?_
  refine wp_aload_n d_Mo_putBack_8 rfl rfl rfl ?_
  refine gM_33 rfl d_Mo_putBack_9 ?_
  refine pM_2 rfl d_Mo_putBack_12 ?_
  refine wp_iconst (v := 0) d_Mo_putBack_15 rfl ?_
  refine wp_istore_n (ls' := [_, _]) d_Mo_putBack_16 rfl (by decide) rfl ?_
  rw [show ∀ J : Nat → Int32, HM X J A L E = HM X J (mo_pb A 0) L E from fun J => by rw [mo_pb_0]]
  exact l_Mo_putBack_17 k 6 0 (by omega)
/-- how it stands ahead of the k-th tube -/
def mo_li (I : Nat → Int32) (A : Nat → Nat → Int32) (I1 : Nat → Int32) (A1 : Nat → Nat → Int32) (z : sp_LS) : Prop := ms [2, 29, 30, 31, 32, 33, 36, 37, 38] [7, 8, 28, 34, 35, 39] I I1 A A1 ∧ I1 32 = 2000000000 ∧ I1 33 = I 2 ∧ A1 34 = sp_cp (A 7) (A 34) 6 ∧ A1 35 = sp_cp (A 8) (A 35) 6 ∧ I1 2 = z.1 ∧ A1 7 = z.2.1 ∧ A1 8 = z.2.2.1 ∧ I1 36 = z.2.2.2.1 ∧ I1 37 = z.2.2.2.2.1 ∧ I1 38 = z.2.2.2.2.2.1 ∧ A1 39 = z.2.2.2.2.2.2 ∧ mo_h A1 ∧ (∀ x, 6 ≤ x → z.2.1 x = A 7 x ∧ z.2.2.1 x = A 8 x)
set_option maxRecDepth 4000 in
set_option maxHeartbeats 1000000 in
theorem l_Mo_layTubes_46 {n b : Nat} {ln : Nat → Nat} {cl : List sp_Cl} {bt r : Int32} {nn jj : Nat} (hD : 5 ≤ D) (hw : mo_w I A n ln b cl) (e32 : I 32 = 9999) (hn30 : nn ≤ 30) (hj : jj ≤ 60) : ∀ (q k : Nat) (I1 : Nat → Int32) (A1 : Nat → Nat → Int32) (z : sp_LS), k + q = nn → mo_li I A I1 A1 z → (∀ (I' : Nat → Int32) (A' : Nat → Nat → Int32), ms [29, 30, 31, 33, 36, 37, 38] [28, 34, 35, 39] I I' A A' → I' 36 = (sp_ly (A 5, A 6, A 9, ln, n, cl) (I 2) bt r jj q k z).2.2.2.1 → I' 37 = (sp_ly (A 5, A 6, A 9, ln, n, cl) (I 2) bt r jj q k z).2.2.2.2.1 → I' 38 = (sp_ly (A 5, A 6, A 9, ln, n, cl) (I 2) bt r jj q k z).2.2.2.2.2.1 → A' 39 = (sp_ly (A 5, A 6, A 9, ln, n, cl) (I 2) bt r jj q k z).2.2.2.2.2.2 → Q none (HM X I' A' L E)) → px_W G D 0 0 m_Mo_layTubes 46 [some (.ref X.length), some (.int (nI nn)), some (.int bt), some (.int (nI jj)), some (.int r), some (.int (nI k))] [] (HM X I1 A1 L E) Q := by
  intro q
  induction q with
  | zero =>
    intro k I1 A1 z hk hz hq
    obtain ⟨hm, h32, h33, h34, h35, h2, h7, h8, h36, h37, h38, h39, hh, hout⟩ := hz
    refine wp_iload d_Mo_layTubes_46 rfl ?_
    refine wp_iload_n d_Mo_layTubes_48 rfl rfl ?_
    refine wp_icmp_ge (t := 170) d_Mo_layTubes_49 (by decide) (fun c_49 => ?_) (fun c_49 => absurd (nI_le (by omega) (by omega)) c_49)
    refine wp_aload_n d_Mo_layTubes_170 rfl rfl rfl ?_
    refine wp_callV (r := (R_12, T_12, 70)) (M' := m_Mo_putBack) (as := []) (D' := D - 1) (C1 := 0) (C2 := 0) (S1 := 0) (S2 := 0) d_Mo_layTubes_171 rfl w_1391 w_1393 w_50 hm_0 k_Mo_putBack (Nat.le_of_ble_eq_true rfl) rfl (Nat.le_of_ble_eq_true rfl) (by omega) rfl rfl ?_
    refine c_Mo_putBack (by omega)  ?_
    refine wp_return d_Mo_layTubes_174 rfl ?_
    refine hq _ _ ⟨fun k hk => ?_, fun k hk => ?_⟩ h36 h37 h38 h39
    · by_cases k2 : k = 2
      · subst k2; exact h33
      · by_cases k32 : k = 32
        · subst k32; exact e32.symm
        · show (if k = 2 then _ else if k = 32 then _ else I1 k) = I k
          rw [if_neg k2, if_neg k32]
          exact hm.1 k (fun z => hk (by revert z k2 k32; simp; omega))
    · by_cases k7 : k = 7
      · subst k7
        funext x
        show (if x < 6 then A1 34 x else A1 7 x) = A 7 x
        by_cases hx : x < 6
        · rw [if_pos hx, h34]; exact if_pos hx
        · rw [if_neg hx, h7]; exact (hout x (by omega)).1
      · by_cases k8 : k = 8
        · subst k8
          funext x
          show (if x < 6 then A1 35 x else A1 8 x) = A 8 x
          by_cases hx : x < 6
          · rw [if_pos hx, h35]; exact if_pos hx
          · rw [if_neg hx, h8]; exact (hout x (by omega)).2
        · show (if k = 7 then _ else if k = 8 then _ else A1 k) = A k
          rw [if_neg k7, if_neg k8]
          exact hm.2 k (fun z => hk (by revert z k7 k8; simp; omega))
  | succ q ih =>
    intro k I1 A1 z hk hz hq
    obtain ⟨hm, h32, h33, h34, h35, h2, h7, h8, h36, h37, h38, h39, hh, hout⟩ := hz
    have hw1 : mo_w I1 A1 n ln b cl := mo_w_ms2 hw hm ⟨2000000000, by decide, h32⟩ (by decide) (by decide)
    have a5 : A1 5 = A 5 := hm.2 5 (by decide)
    have a6 : A1 6 = A 6 := hm.2 6 (by decide)
    have a9 : A1 9 = A 9 := hm.2 9 (by decide)
    have eT : sp_throw (A1 5, A1 6, A1 9, ln, n, cl) (I1 32) (I1 2) (A1 7) (A1 8) = sp_throw (A 5, A 6, A 9, ln, n, cl) 2000000000 z.1 z.2.1 z.2.2.1 := by rw [a5, a6, a9, h32, h2, h7, h8]
    have hlx : ∀ (x : Nat), 6 ≤ x → ∀ i, 0 ≤ i → i < 0 + n → ln i ≠ x := fun x hx i _ hi e => by have := (hw.2.2.1 i (by omega)).1; omega
    have ek : nI k + 1 = nI (k + 1) := nI_1 k
    refine wp_iload d_Mo_layTubes_46 rfl ?_
    refine wp_iload_n d_Mo_layTubes_48 rfl rfl ?_
    refine wp_icmp_ge (t := 170) d_Mo_layTubes_49 (by decide) (fun c_49 => absurd c_49 (nI_ge (by omega) (by omega))) (fun c_49 => ?_)
    refine wp_aload_n d_Mo_layTubes_52 rfl rfl rfl ?_
    refine wp_callV (r := (R_12, T_12, 70)) (M' := m_Mo_goTube) (as := []) (D' := D - 1) (C1 := 0) (C2 := 0) (S1 := 0) (S2 := 0) d_Mo_layTubes_53 rfl w_1366 w_1368 w_46 hm_0 k_Mo_goTube (Nat.le_of_ble_eq_true rfl) rfl (Nat.le_of_ble_eq_true rfl) (by omega) rfl rfl ?_
    refine c_Mo_goTube (by omega) hw1 hh (fun I2 A2 hm2 g7 g8 hh2 => ?_)
    rw [eT] at g7 g8
    rw [eT]
    have hout2 : ∀ x, 6 ≤ x → (sp_throw (A 5, A 6, A 9, ln, n, cl) 2000000000 z.1 z.2.1 z.2.2.1).2.2.1 x = A 7 x ∧ (sp_throw (A 5, A 6, A 9, ln, n, cl) 2000000000 z.1 z.2.1 z.2.2.1).2.2.2 x = A 8 x := fun x hx => by
      have := sp_go_out (s := (A 5, A 6, A 9, ln, n, cl)) (c := 2000000000) n 0 (z.1 + sp_rise cl) z.2.1 z.2.2.1 (hlx x hx)
      exact ⟨this.1.trans (hout x hx).1, this.2.trans (hout x hx).2⟩
    have hl1 : sp_ly (A 5, A 6, A 9, ln, n, cl) (I 2) bt r jj (q + 1) k z = sp_ly (A 5, A 6, A 9, ln, n, cl) (I 2) bt r jj q (k + 1) (sp_l1 (A 5, A 6, A 9, ln, n, cl) (I 2) bt r jj k z) := rfl
    rw [hl1] at hq
    rcases hr : sp_throw (A 5, A 6, A 9, ln, n, cl) 2000000000 z.1 z.2.1 z.2.2.1 with ⟨r1, rt, rh, rf⟩
    rw [hr] at g7 g8 hout2
    have i2 : I2 2 = z.1 := (hm2.1 2 (by decide)).trans h2
    have i33 : I2 33 = I 2 := (hm2.1 33 (by decide)).trans h33
    have i36 : I2 36 = z.2.2.2.1 := (hm2.1 36 (by decide)).trans h36
    have i37 : I2 37 = z.2.2.2.2.1 := (hm2.1 37 (by decide)).trans h37
    have i38 : I2 38 = z.2.2.2.2.2.1 := (hm2.1 38 (by decide)).trans h38
    have a39 : A2 39 = z.2.2.2.2.2.2 := (hm2.2 39 (by decide)).trans h39
    have i32 : I2 32 = 2000000000 := (hm2.1 32 (by decide)).trans h32
    have a34 : A2 34 = sp_cp (A 7) (A 34) 6 := (hm2.2 34 (by decide)).trans h34
    have a35 : A2 35 = sp_cp (A 8) (A 35) 6 := (hm2.2 35 (by decide)).trans h35
    have hmm : ms [2, 29, 30, 31, 32, 33, 36, 37, 38] [7, 8, 28, 34, 35, 39] I I2 A A2 := hm.tr (hm2.mo (by decide) (by decide))
    cases r1 with
    | none =>
      intro h31
      have h31 : I2 31 = rt := h31
      refine wp_if_eq (t := 121) d_Mo_layTubes_56 (by decide) (fun c_56 => (absurd c_56 (by decide))) (fun c_56 => ?_)
      refine wp_aload_n d_Mo_layTubes_59 rfl rfl rfl ?_
      refine wp_dup d_Mo_layTubes_60 rfl ?_
      refine gM_36 rfl d_Mo_layTubes_61 ?_
      refine wp_iconst (v := 1) d_Mo_layTubes_64 rfl ?_
      refine wp_iadd d_Mo_layTubes_65 ?_
      refine pM_36 rfl d_Mo_layTubes_66 ?_
      refine wp_aload_n d_Mo_layTubes_69 rfl rfl rfl ?_
      refine wp_dup d_Mo_layTubes_70 rfl ?_
      refine gM_37 rfl d_Mo_layTubes_71 ?_
      refine wp_iconst (v := 1) d_Mo_layTubes_74 rfl ?_
      refine wp_iload d_Mo_layTubes_75 rfl ?_
      refine wp_ishl d_Mo_layTubes_77 ?_
      refine wp_ior d_Mo_layTubes_78 ?_
      refine pM_37 rfl d_Mo_layTubes_79 ?_
      refine wp_aload_n d_Mo_layTubes_82 rfl rfl rfl ?_
      refine wp_aload_n d_Mo_layTubes_83 rfl rfl rfl ?_
      refine gM_31 rfl d_Mo_layTubes_84 ?_
      refine wp_aload_n d_Mo_layTubes_87 rfl rfl rfl ?_
      refine gM_33 rfl d_Mo_layTubes_88 ?_
      refine wp_isub d_Mo_layTubes_91 ?_
      refine wp_aload_n d_Mo_layTubes_92 rfl rfl rfl ?_
      refine gM_38 rfl d_Mo_layTubes_93 ?_
      refine wp_icmp_le (t := 111) d_Mo_layTubes_96 (by decide) (fun c_96 => ?_) (fun c_96 => ?_)
      · skip
        refine wp_aload_n d_Mo_layTubes_111 rfl rfl rfl ?_
        refine gM_38 rfl d_Mo_layTubes_112 ?_
        refine pM_38 rfl d_Mo_layTubes_115 ?_
        refine wp_goto (t := 134) d_Mo_layTubes_118 (by decide) ?_
        refine wp_aload_n d_Mo_layTubes_134 rfl rfl rfl ?_
        refine wp_dup d_Mo_layTubes_135 rfl ?_
        refine gM_2 rfl d_Mo_layTubes_136 ?_
        refine wp_iload_n d_Mo_layTubes_139 rfl rfl ?_
        refine wp_if_le (t := 159) d_Mo_layTubes_140 (by decide) (fun c_140 => ?_) (fun c_140 => ?_)
        · skip
          refine wp_iload_n d_Mo_layTubes_159 rfl rfl ?_
          refine wp_iadd d_Mo_layTubes_160 ?_
          refine pM_2 rfl d_Mo_layTubes_161 ?_
          refine wp_iinc (v := _ + 1) (ls' := [_, _, _, _, _, _]) d_Mo_layTubes_164 (by decide) rfl rfl rfl ?_
          refine wp_goto (t := 46) d_Mo_layTubes_167 (by decide) ?_
          rw [ek]
          first
            | (have j0 : 0 < jj := (by rcases Nat.eq_zero_or_pos jj with e | e; exact absurd (by rw [e]; decide) c_140; exact e)
               have hbt : sp_bt bt r jj k = bt + r := if_pos ⟨j0, (nI_eq (b := 0) (Nat.lt_of_le_of_lt (Nat.mod_le _ _) (by omega)) (by decide)).mp (by rw [pk_rem (by omega) j0 (by omega)] at c_149; exact c_149)⟩
               refine ih (k + 1) _ _ (sp_l1 (A 5, A 6, A 9, ln, n, cl) (I 2) bt r jj k z) (by omega) ?_ hq
               unfold sp_l1
               rw [hr, hbt]
               first | exact ⟨(((hmm.i 36 (by decide) _).i 37 (by decide) _).i 38 (by decide) _).i 2 (by decide) _, i32, i33, a34, a35, congrArg (· + _) i2, g7, g8, congrArg (· + 1) i36, congrArg (· ||| _) i37, (by show _ = (if z.2.2.2.2.2.1 < rt - I 2 then rt - I 2 else z.2.2.2.2.2.1); first | (rw [if_pos (by rw [← h31, ← i33, ← i38]; exact Int32.not_le.mp c_96)]; show I2 31 - I2 33 = _; rw [h31, i33]) | (rw [if_neg (by rw [← h31, ← i33, ← i38]; exact Int32.not_lt.mpr c_96)]; exact i38)), a39, hh2, hout2⟩ | exact ⟨((hmm.a 39 (by decide) _).i 2 (by decide) _), i32, i33, a34, a35, congrArg (· + _) i2, g7, g8, i36, i37, i38, (by show upd (A2 39) (I2 30).toNatClampNeg (A2 39 (I2 30).toNatClampNeg + 1) = _; rw [h30, nI_clamp (by omega), a39]), hh2, hout2⟩)
            | (have j0 : 0 < jj := (by rcases Nat.eq_zero_or_pos jj with e | e; exact absurd (by rw [e]; decide) c_140; exact e)
               have hbt : sp_bt bt r jj k = bt := if_neg (fun zz => c_149 (by rw [pk_rem (by omega) zz.1 (by omega), zz.2]; rfl))
               refine ih (k + 1) _ _ (sp_l1 (A 5, A 6, A 9, ln, n, cl) (I 2) bt r jj k z) (by omega) ?_ hq
               unfold sp_l1
               rw [hr, hbt]
               first | exact ⟨(((hmm.i 36 (by decide) _).i 37 (by decide) _).i 38 (by decide) _).i 2 (by decide) _, i32, i33, a34, a35, congrArg (· + _) i2, g7, g8, congrArg (· + 1) i36, congrArg (· ||| _) i37, (by show _ = (if z.2.2.2.2.2.1 < rt - I 2 then rt - I 2 else z.2.2.2.2.2.1); first | (rw [if_pos (by rw [← h31, ← i33, ← i38]; exact Int32.not_le.mp c_96)]; show I2 31 - I2 33 = _; rw [h31, i33]) | (rw [if_neg (by rw [← h31, ← i33, ← i38]; exact Int32.not_lt.mpr c_96)]; exact i38)), a39, hh2, hout2⟩ | exact ⟨((hmm.a 39 (by decide) _).i 2 (by decide) _), i32, i33, a34, a35, congrArg (· + _) i2, g7, g8, i36, i37, i38, (by show upd (A2 39) (I2 30).toNatClampNeg (A2 39 (I2 30).toNatClampNeg + 1) = _; rw [h30, nI_clamp (by omega), a39]), hh2, hout2⟩)
            | (have hbt : sp_bt bt r jj k = bt := if_neg (fun zz => absurd (nI_lt (a := 0) zz.1 (by omega)) (Int32.not_lt.mpr c_140))
               refine ih (k + 1) _ _ (sp_l1 (A 5, A 6, A 9, ln, n, cl) (I 2) bt r jj k z) (by omega) ?_ hq
               unfold sp_l1
               rw [hr, hbt]
               first | exact ⟨(((hmm.i 36 (by decide) _).i 37 (by decide) _).i 38 (by decide) _).i 2 (by decide) _, i32, i33, a34, a35, congrArg (· + _) i2, g7, g8, congrArg (· + 1) i36, congrArg (· ||| _) i37, (by show _ = (if z.2.2.2.2.2.1 < rt - I 2 then rt - I 2 else z.2.2.2.2.2.1); first | (rw [if_pos (by rw [← h31, ← i33, ← i38]; exact Int32.not_le.mp c_96)]; show I2 31 - I2 33 = _; rw [h31, i33]) | (rw [if_neg (by rw [← h31, ← i33, ← i38]; exact Int32.not_lt.mpr c_96)]; exact i38)), a39, hh2, hout2⟩ | exact ⟨((hmm.a 39 (by decide) _).i 2 (by decide) _), i32, i33, a34, a35, congrArg (· + _) i2, g7, g8, i36, i37, i38, (by show upd (A2 39) (I2 30).toNatClampNeg (A2 39 (I2 30).toNatClampNeg + 1) = _; rw [h30, nI_clamp (by omega), a39]), hh2, hout2⟩)
        · skip
          refine wp_iload d_Mo_layTubes_143 rfl ?_
          refine wp_iconst (v := 1) d_Mo_layTubes_145 rfl ?_
          refine wp_iadd d_Mo_layTubes_146 ?_
          rw [ek]
          refine wp_iload_n d_Mo_layTubes_147 rfl rfl ?_
          refine wp_irem d_Mo_layTubes_148 (by intro e; rw [e] at c_140; exact c_140 (by decide)) ?_
          refine wp_if_ne (t := 159) d_Mo_layTubes_149 (by decide) (fun c_149 => ?_) (fun c_149 => ?_)
          · skip
            refine wp_iload_n d_Mo_layTubes_159 rfl rfl ?_
            refine wp_iadd d_Mo_layTubes_160 ?_
            refine pM_2 rfl d_Mo_layTubes_161 ?_
            refine wp_iinc (v := _ + 1) (ls' := [_, _, _, _, _, _]) d_Mo_layTubes_164 (by decide) rfl rfl rfl ?_
            refine wp_goto (t := 46) d_Mo_layTubes_167 (by decide) ?_
            rw [ek]
            first
              | (have j0 : 0 < jj := (by rcases Nat.eq_zero_or_pos jj with e | e; exact absurd (by rw [e]; decide) c_140; exact e)
                 have hbt : sp_bt bt r jj k = bt + r := if_pos ⟨j0, (nI_eq (b := 0) (Nat.lt_of_le_of_lt (Nat.mod_le _ _) (by omega)) (by decide)).mp (by rw [pk_rem (by omega) j0 (by omega)] at c_149; exact c_149)⟩
                 refine ih (k + 1) _ _ (sp_l1 (A 5, A 6, A 9, ln, n, cl) (I 2) bt r jj k z) (by omega) ?_ hq
                 unfold sp_l1
                 rw [hr, hbt]
                 first | exact ⟨(((hmm.i 36 (by decide) _).i 37 (by decide) _).i 38 (by decide) _).i 2 (by decide) _, i32, i33, a34, a35, congrArg (· + _) i2, g7, g8, congrArg (· + 1) i36, congrArg (· ||| _) i37, (by show _ = (if z.2.2.2.2.2.1 < rt - I 2 then rt - I 2 else z.2.2.2.2.2.1); first | (rw [if_pos (by rw [← h31, ← i33, ← i38]; exact Int32.not_le.mp c_96)]; show I2 31 - I2 33 = _; rw [h31, i33]) | (rw [if_neg (by rw [← h31, ← i33, ← i38]; exact Int32.not_lt.mpr c_96)]; exact i38)), a39, hh2, hout2⟩ | exact ⟨((hmm.a 39 (by decide) _).i 2 (by decide) _), i32, i33, a34, a35, congrArg (· + _) i2, g7, g8, i36, i37, i38, (by show upd (A2 39) (I2 30).toNatClampNeg (A2 39 (I2 30).toNatClampNeg + 1) = _; rw [h30, nI_clamp (by omega), a39]), hh2, hout2⟩)
              | (have j0 : 0 < jj := (by rcases Nat.eq_zero_or_pos jj with e | e; exact absurd (by rw [e]; decide) c_140; exact e)
                 have hbt : sp_bt bt r jj k = bt := if_neg (fun zz => c_149 (by rw [pk_rem (by omega) zz.1 (by omega), zz.2]; rfl))
                 refine ih (k + 1) _ _ (sp_l1 (A 5, A 6, A 9, ln, n, cl) (I 2) bt r jj k z) (by omega) ?_ hq
                 unfold sp_l1
                 rw [hr, hbt]
                 first | exact ⟨(((hmm.i 36 (by decide) _).i 37 (by decide) _).i 38 (by decide) _).i 2 (by decide) _, i32, i33, a34, a35, congrArg (· + _) i2, g7, g8, congrArg (· + 1) i36, congrArg (· ||| _) i37, (by show _ = (if z.2.2.2.2.2.1 < rt - I 2 then rt - I 2 else z.2.2.2.2.2.1); first | (rw [if_pos (by rw [← h31, ← i33, ← i38]; exact Int32.not_le.mp c_96)]; show I2 31 - I2 33 = _; rw [h31, i33]) | (rw [if_neg (by rw [← h31, ← i33, ← i38]; exact Int32.not_lt.mpr c_96)]; exact i38)), a39, hh2, hout2⟩ | exact ⟨((hmm.a 39 (by decide) _).i 2 (by decide) _), i32, i33, a34, a35, congrArg (· + _) i2, g7, g8, i36, i37, i38, (by show upd (A2 39) (I2 30).toNatClampNeg (A2 39 (I2 30).toNatClampNeg + 1) = _; rw [h30, nI_clamp (by omega), a39]), hh2, hout2⟩)
              | (have hbt : sp_bt bt r jj k = bt := if_neg (fun zz => absurd (nI_lt (a := 0) zz.1 (by omega)) (Int32.not_lt.mpr c_140))
                 refine ih (k + 1) _ _ (sp_l1 (A 5, A 6, A 9, ln, n, cl) (I 2) bt r jj k z) (by omega) ?_ hq
                 unfold sp_l1
                 rw [hr, hbt]
                 first | exact ⟨(((hmm.i 36 (by decide) _).i 37 (by decide) _).i 38 (by decide) _).i 2 (by decide) _, i32, i33, a34, a35, congrArg (· + _) i2, g7, g8, congrArg (· + 1) i36, congrArg (· ||| _) i37, (by show _ = (if z.2.2.2.2.2.1 < rt - I 2 then rt - I 2 else z.2.2.2.2.2.1); first | (rw [if_pos (by rw [← h31, ← i33, ← i38]; exact Int32.not_le.mp c_96)]; show I2 31 - I2 33 = _; rw [h31, i33]) | (rw [if_neg (by rw [← h31, ← i33, ← i38]; exact Int32.not_lt.mpr c_96)]; exact i38)), a39, hh2, hout2⟩ | exact ⟨((hmm.a 39 (by decide) _).i 2 (by decide) _), i32, i33, a34, a35, congrArg (· + _) i2, g7, g8, i36, i37, i38, (by show upd (A2 39) (I2 30).toNatClampNeg (A2 39 (I2 30).toNatClampNeg + 1) = _; rw [h30, nI_clamp (by omega), a39]), hh2, hout2⟩)
          · skip
            refine wp_iload_n d_Mo_layTubes_152 rfl rfl ?_
            refine wp_iload d_Mo_layTubes_153 rfl ?_
            refine wp_iadd d_Mo_layTubes_155 ?_
            refine wp_goto (t := 160) d_Mo_layTubes_156 (by decide) ?_
            refine wp_iadd d_Mo_layTubes_160 ?_
            refine pM_2 rfl d_Mo_layTubes_161 ?_
            refine wp_iinc (v := _ + 1) (ls' := [_, _, _, _, _, _]) d_Mo_layTubes_164 (by decide) rfl rfl rfl ?_
            refine wp_goto (t := 46) d_Mo_layTubes_167 (by decide) ?_
            rw [ek]
            first
              | (have j0 : 0 < jj := (by rcases Nat.eq_zero_or_pos jj with e | e; exact absurd (by rw [e]; decide) c_140; exact e)
                 have hbt : sp_bt bt r jj k = bt + r := if_pos ⟨j0, (nI_eq (b := 0) (Nat.lt_of_le_of_lt (Nat.mod_le _ _) (by omega)) (by decide)).mp (by rw [pk_rem (by omega) j0 (by omega)] at c_149; exact c_149)⟩
                 refine ih (k + 1) _ _ (sp_l1 (A 5, A 6, A 9, ln, n, cl) (I 2) bt r jj k z) (by omega) ?_ hq
                 unfold sp_l1
                 rw [hr, hbt]
                 first | exact ⟨(((hmm.i 36 (by decide) _).i 37 (by decide) _).i 38 (by decide) _).i 2 (by decide) _, i32, i33, a34, a35, congrArg (· + _) i2, g7, g8, congrArg (· + 1) i36, congrArg (· ||| _) i37, (by show _ = (if z.2.2.2.2.2.1 < rt - I 2 then rt - I 2 else z.2.2.2.2.2.1); first | (rw [if_pos (by rw [← h31, ← i33, ← i38]; exact Int32.not_le.mp c_96)]; show I2 31 - I2 33 = _; rw [h31, i33]) | (rw [if_neg (by rw [← h31, ← i33, ← i38]; exact Int32.not_lt.mpr c_96)]; exact i38)), a39, hh2, hout2⟩ | exact ⟨((hmm.a 39 (by decide) _).i 2 (by decide) _), i32, i33, a34, a35, congrArg (· + _) i2, g7, g8, i36, i37, i38, (by show upd (A2 39) (I2 30).toNatClampNeg (A2 39 (I2 30).toNatClampNeg + 1) = _; rw [h30, nI_clamp (by omega), a39]), hh2, hout2⟩)
              | (have j0 : 0 < jj := (by rcases Nat.eq_zero_or_pos jj with e | e; exact absurd (by rw [e]; decide) c_140; exact e)
                 have hbt : sp_bt bt r jj k = bt := if_neg (fun zz => c_149 (by rw [pk_rem (by omega) zz.1 (by omega), zz.2]; rfl))
                 refine ih (k + 1) _ _ (sp_l1 (A 5, A 6, A 9, ln, n, cl) (I 2) bt r jj k z) (by omega) ?_ hq
                 unfold sp_l1
                 rw [hr, hbt]
                 first | exact ⟨(((hmm.i 36 (by decide) _).i 37 (by decide) _).i 38 (by decide) _).i 2 (by decide) _, i32, i33, a34, a35, congrArg (· + _) i2, g7, g8, congrArg (· + 1) i36, congrArg (· ||| _) i37, (by show _ = (if z.2.2.2.2.2.1 < rt - I 2 then rt - I 2 else z.2.2.2.2.2.1); first | (rw [if_pos (by rw [← h31, ← i33, ← i38]; exact Int32.not_le.mp c_96)]; show I2 31 - I2 33 = _; rw [h31, i33]) | (rw [if_neg (by rw [← h31, ← i33, ← i38]; exact Int32.not_lt.mpr c_96)]; exact i38)), a39, hh2, hout2⟩ | exact ⟨((hmm.a 39 (by decide) _).i 2 (by decide) _), i32, i33, a34, a35, congrArg (· + _) i2, g7, g8, i36, i37, i38, (by show upd (A2 39) (I2 30).toNatClampNeg (A2 39 (I2 30).toNatClampNeg + 1) = _; rw [h30, nI_clamp (by omega), a39]), hh2, hout2⟩)
              | (have hbt : sp_bt bt r jj k = bt := if_neg (fun zz => absurd (nI_lt (a := 0) zz.1 (by omega)) (Int32.not_lt.mpr c_140))
                 refine ih (k + 1) _ _ (sp_l1 (A 5, A 6, A 9, ln, n, cl) (I 2) bt r jj k z) (by omega) ?_ hq
                 unfold sp_l1
                 rw [hr, hbt]
                 first | exact ⟨(((hmm.i 36 (by decide) _).i 37 (by decide) _).i 38 (by decide) _).i 2 (by decide) _, i32, i33, a34, a35, congrArg (· + _) i2, g7, g8, congrArg (· + 1) i36, congrArg (· ||| _) i37, (by show _ = (if z.2.2.2.2.2.1 < rt - I 2 then rt - I 2 else z.2.2.2.2.2.1); first | (rw [if_pos (by rw [← h31, ← i33, ← i38]; exact Int32.not_le.mp c_96)]; show I2 31 - I2 33 = _; rw [h31, i33]) | (rw [if_neg (by rw [← h31, ← i33, ← i38]; exact Int32.not_lt.mpr c_96)]; exact i38)), a39, hh2, hout2⟩ | exact ⟨((hmm.a 39 (by decide) _).i 2 (by decide) _), i32, i33, a34, a35, congrArg (· + _) i2, g7, g8, i36, i37, i38, (by show upd (A2 39) (I2 30).toNatClampNeg (A2 39 (I2 30).toNatClampNeg + 1) = _; rw [h30, nI_clamp (by omega), a39]), hh2, hout2⟩)
      · skip
        refine wp_aload_n d_Mo_layTubes_99 rfl rfl rfl ?_
        refine gM_31 rfl d_Mo_layTubes_100 ?_
        refine wp_aload_n d_Mo_layTubes_103 rfl rfl rfl ?_
        refine gM_33 rfl d_Mo_layTubes_104 ?_
        refine wp_isub d_Mo_layTubes_107 ?_
        refine wp_goto (t := 115) d_Mo_layTubes_108 (by decide) ?_
        refine pM_38 rfl d_Mo_layTubes_115 ?_
        refine wp_goto (t := 134) d_Mo_layTubes_118 (by decide) ?_
        refine wp_aload_n d_Mo_layTubes_134 rfl rfl rfl ?_
        refine wp_dup d_Mo_layTubes_135 rfl ?_
        refine gM_2 rfl d_Mo_layTubes_136 ?_
        refine wp_iload_n d_Mo_layTubes_139 rfl rfl ?_
        refine wp_if_le (t := 159) d_Mo_layTubes_140 (by decide) (fun c_140 => ?_) (fun c_140 => ?_)
        · skip
          refine wp_iload_n d_Mo_layTubes_159 rfl rfl ?_
          refine wp_iadd d_Mo_layTubes_160 ?_
          refine pM_2 rfl d_Mo_layTubes_161 ?_
          refine wp_iinc (v := _ + 1) (ls' := [_, _, _, _, _, _]) d_Mo_layTubes_164 (by decide) rfl rfl rfl ?_
          refine wp_goto (t := 46) d_Mo_layTubes_167 (by decide) ?_
          rw [ek]
          first
            | (have j0 : 0 < jj := (by rcases Nat.eq_zero_or_pos jj with e | e; exact absurd (by rw [e]; decide) c_140; exact e)
               have hbt : sp_bt bt r jj k = bt + r := if_pos ⟨j0, (nI_eq (b := 0) (Nat.lt_of_le_of_lt (Nat.mod_le _ _) (by omega)) (by decide)).mp (by rw [pk_rem (by omega) j0 (by omega)] at c_149; exact c_149)⟩
               refine ih (k + 1) _ _ (sp_l1 (A 5, A 6, A 9, ln, n, cl) (I 2) bt r jj k z) (by omega) ?_ hq
               unfold sp_l1
               rw [hr, hbt]
               first | exact ⟨(((hmm.i 36 (by decide) _).i 37 (by decide) _).i 38 (by decide) _).i 2 (by decide) _, i32, i33, a34, a35, congrArg (· + _) i2, g7, g8, congrArg (· + 1) i36, congrArg (· ||| _) i37, (by show _ = (if z.2.2.2.2.2.1 < rt - I 2 then rt - I 2 else z.2.2.2.2.2.1); first | (rw [if_pos (by rw [← h31, ← i33, ← i38]; exact Int32.not_le.mp c_96)]; show I2 31 - I2 33 = _; rw [h31, i33]) | (rw [if_neg (by rw [← h31, ← i33, ← i38]; exact Int32.not_lt.mpr c_96)]; exact i38)), a39, hh2, hout2⟩ | exact ⟨((hmm.a 39 (by decide) _).i 2 (by decide) _), i32, i33, a34, a35, congrArg (· + _) i2, g7, g8, i36, i37, i38, (by show upd (A2 39) (I2 30).toNatClampNeg (A2 39 (I2 30).toNatClampNeg + 1) = _; rw [h30, nI_clamp (by omega), a39]), hh2, hout2⟩)
            | (have j0 : 0 < jj := (by rcases Nat.eq_zero_or_pos jj with e | e; exact absurd (by rw [e]; decide) c_140; exact e)
               have hbt : sp_bt bt r jj k = bt := if_neg (fun zz => c_149 (by rw [pk_rem (by omega) zz.1 (by omega), zz.2]; rfl))
               refine ih (k + 1) _ _ (sp_l1 (A 5, A 6, A 9, ln, n, cl) (I 2) bt r jj k z) (by omega) ?_ hq
               unfold sp_l1
               rw [hr, hbt]
               first | exact ⟨(((hmm.i 36 (by decide) _).i 37 (by decide) _).i 38 (by decide) _).i 2 (by decide) _, i32, i33, a34, a35, congrArg (· + _) i2, g7, g8, congrArg (· + 1) i36, congrArg (· ||| _) i37, (by show _ = (if z.2.2.2.2.2.1 < rt - I 2 then rt - I 2 else z.2.2.2.2.2.1); first | (rw [if_pos (by rw [← h31, ← i33, ← i38]; exact Int32.not_le.mp c_96)]; show I2 31 - I2 33 = _; rw [h31, i33]) | (rw [if_neg (by rw [← h31, ← i33, ← i38]; exact Int32.not_lt.mpr c_96)]; exact i38)), a39, hh2, hout2⟩ | exact ⟨((hmm.a 39 (by decide) _).i 2 (by decide) _), i32, i33, a34, a35, congrArg (· + _) i2, g7, g8, i36, i37, i38, (by show upd (A2 39) (I2 30).toNatClampNeg (A2 39 (I2 30).toNatClampNeg + 1) = _; rw [h30, nI_clamp (by omega), a39]), hh2, hout2⟩)
            | (have hbt : sp_bt bt r jj k = bt := if_neg (fun zz => absurd (nI_lt (a := 0) zz.1 (by omega)) (Int32.not_lt.mpr c_140))
               refine ih (k + 1) _ _ (sp_l1 (A 5, A 6, A 9, ln, n, cl) (I 2) bt r jj k z) (by omega) ?_ hq
               unfold sp_l1
               rw [hr, hbt]
               first | exact ⟨(((hmm.i 36 (by decide) _).i 37 (by decide) _).i 38 (by decide) _).i 2 (by decide) _, i32, i33, a34, a35, congrArg (· + _) i2, g7, g8, congrArg (· + 1) i36, congrArg (· ||| _) i37, (by show _ = (if z.2.2.2.2.2.1 < rt - I 2 then rt - I 2 else z.2.2.2.2.2.1); first | (rw [if_pos (by rw [← h31, ← i33, ← i38]; exact Int32.not_le.mp c_96)]; show I2 31 - I2 33 = _; rw [h31, i33]) | (rw [if_neg (by rw [← h31, ← i33, ← i38]; exact Int32.not_lt.mpr c_96)]; exact i38)), a39, hh2, hout2⟩ | exact ⟨((hmm.a 39 (by decide) _).i 2 (by decide) _), i32, i33, a34, a35, congrArg (· + _) i2, g7, g8, i36, i37, i38, (by show upd (A2 39) (I2 30).toNatClampNeg (A2 39 (I2 30).toNatClampNeg + 1) = _; rw [h30, nI_clamp (by omega), a39]), hh2, hout2⟩)
        · skip
          refine wp_iload d_Mo_layTubes_143 rfl ?_
          refine wp_iconst (v := 1) d_Mo_layTubes_145 rfl ?_
          refine wp_iadd d_Mo_layTubes_146 ?_
          rw [ek]
          refine wp_iload_n d_Mo_layTubes_147 rfl rfl ?_
          refine wp_irem d_Mo_layTubes_148 (by intro e; rw [e] at c_140; exact c_140 (by decide)) ?_
          refine wp_if_ne (t := 159) d_Mo_layTubes_149 (by decide) (fun c_149 => ?_) (fun c_149 => ?_)
          · skip
            refine wp_iload_n d_Mo_layTubes_159 rfl rfl ?_
            refine wp_iadd d_Mo_layTubes_160 ?_
            refine pM_2 rfl d_Mo_layTubes_161 ?_
            refine wp_iinc (v := _ + 1) (ls' := [_, _, _, _, _, _]) d_Mo_layTubes_164 (by decide) rfl rfl rfl ?_
            refine wp_goto (t := 46) d_Mo_layTubes_167 (by decide) ?_
            rw [ek]
            first
              | (have j0 : 0 < jj := (by rcases Nat.eq_zero_or_pos jj with e | e; exact absurd (by rw [e]; decide) c_140; exact e)
                 have hbt : sp_bt bt r jj k = bt + r := if_pos ⟨j0, (nI_eq (b := 0) (Nat.lt_of_le_of_lt (Nat.mod_le _ _) (by omega)) (by decide)).mp (by rw [pk_rem (by omega) j0 (by omega)] at c_149; exact c_149)⟩
                 refine ih (k + 1) _ _ (sp_l1 (A 5, A 6, A 9, ln, n, cl) (I 2) bt r jj k z) (by omega) ?_ hq
                 unfold sp_l1
                 rw [hr, hbt]
                 first | exact ⟨(((hmm.i 36 (by decide) _).i 37 (by decide) _).i 38 (by decide) _).i 2 (by decide) _, i32, i33, a34, a35, congrArg (· + _) i2, g7, g8, congrArg (· + 1) i36, congrArg (· ||| _) i37, (by show _ = (if z.2.2.2.2.2.1 < rt - I 2 then rt - I 2 else z.2.2.2.2.2.1); first | (rw [if_pos (by rw [← h31, ← i33, ← i38]; exact Int32.not_le.mp c_96)]; show I2 31 - I2 33 = _; rw [h31, i33]) | (rw [if_neg (by rw [← h31, ← i33, ← i38]; exact Int32.not_lt.mpr c_96)]; exact i38)), a39, hh2, hout2⟩ | exact ⟨((hmm.a 39 (by decide) _).i 2 (by decide) _), i32, i33, a34, a35, congrArg (· + _) i2, g7, g8, i36, i37, i38, (by show upd (A2 39) (I2 30).toNatClampNeg (A2 39 (I2 30).toNatClampNeg + 1) = _; rw [h30, nI_clamp (by omega), a39]), hh2, hout2⟩)
              | (have j0 : 0 < jj := (by rcases Nat.eq_zero_or_pos jj with e | e; exact absurd (by rw [e]; decide) c_140; exact e)
                 have hbt : sp_bt bt r jj k = bt := if_neg (fun zz => c_149 (by rw [pk_rem (by omega) zz.1 (by omega), zz.2]; rfl))
                 refine ih (k + 1) _ _ (sp_l1 (A 5, A 6, A 9, ln, n, cl) (I 2) bt r jj k z) (by omega) ?_ hq
                 unfold sp_l1
                 rw [hr, hbt]
                 first | exact ⟨(((hmm.i 36 (by decide) _).i 37 (by decide) _).i 38 (by decide) _).i 2 (by decide) _, i32, i33, a34, a35, congrArg (· + _) i2, g7, g8, congrArg (· + 1) i36, congrArg (· ||| _) i37, (by show _ = (if z.2.2.2.2.2.1 < rt - I 2 then rt - I 2 else z.2.2.2.2.2.1); first | (rw [if_pos (by rw [← h31, ← i33, ← i38]; exact Int32.not_le.mp c_96)]; show I2 31 - I2 33 = _; rw [h31, i33]) | (rw [if_neg (by rw [← h31, ← i33, ← i38]; exact Int32.not_lt.mpr c_96)]; exact i38)), a39, hh2, hout2⟩ | exact ⟨((hmm.a 39 (by decide) _).i 2 (by decide) _), i32, i33, a34, a35, congrArg (· + _) i2, g7, g8, i36, i37, i38, (by show upd (A2 39) (I2 30).toNatClampNeg (A2 39 (I2 30).toNatClampNeg + 1) = _; rw [h30, nI_clamp (by omega), a39]), hh2, hout2⟩)
              | (have hbt : sp_bt bt r jj k = bt := if_neg (fun zz => absurd (nI_lt (a := 0) zz.1 (by omega)) (Int32.not_lt.mpr c_140))
                 refine ih (k + 1) _ _ (sp_l1 (A 5, A 6, A 9, ln, n, cl) (I 2) bt r jj k z) (by omega) ?_ hq
                 unfold sp_l1
                 rw [hr, hbt]
                 first | exact ⟨(((hmm.i 36 (by decide) _).i 37 (by decide) _).i 38 (by decide) _).i 2 (by decide) _, i32, i33, a34, a35, congrArg (· + _) i2, g7, g8, congrArg (· + 1) i36, congrArg (· ||| _) i37, (by show _ = (if z.2.2.2.2.2.1 < rt - I 2 then rt - I 2 else z.2.2.2.2.2.1); first | (rw [if_pos (by rw [← h31, ← i33, ← i38]; exact Int32.not_le.mp c_96)]; show I2 31 - I2 33 = _; rw [h31, i33]) | (rw [if_neg (by rw [← h31, ← i33, ← i38]; exact Int32.not_lt.mpr c_96)]; exact i38)), a39, hh2, hout2⟩ | exact ⟨((hmm.a 39 (by decide) _).i 2 (by decide) _), i32, i33, a34, a35, congrArg (· + _) i2, g7, g8, i36, i37, i38, (by show upd (A2 39) (I2 30).toNatClampNeg (A2 39 (I2 30).toNatClampNeg + 1) = _; rw [h30, nI_clamp (by omega), a39]), hh2, hout2⟩)
          · skip
            refine wp_iload_n d_Mo_layTubes_152 rfl rfl ?_
            refine wp_iload d_Mo_layTubes_153 rfl ?_
            refine wp_iadd d_Mo_layTubes_155 ?_
            refine wp_goto (t := 160) d_Mo_layTubes_156 (by decide) ?_
            refine wp_iadd d_Mo_layTubes_160 ?_
            refine pM_2 rfl d_Mo_layTubes_161 ?_
            refine wp_iinc (v := _ + 1) (ls' := [_, _, _, _, _, _]) d_Mo_layTubes_164 (by decide) rfl rfl rfl ?_
            refine wp_goto (t := 46) d_Mo_layTubes_167 (by decide) ?_
            rw [ek]
            first
              | (have j0 : 0 < jj := (by rcases Nat.eq_zero_or_pos jj with e | e; exact absurd (by rw [e]; decide) c_140; exact e)
                 have hbt : sp_bt bt r jj k = bt + r := if_pos ⟨j0, (nI_eq (b := 0) (Nat.lt_of_le_of_lt (Nat.mod_le _ _) (by omega)) (by decide)).mp (by rw [pk_rem (by omega) j0 (by omega)] at c_149; exact c_149)⟩
                 refine ih (k + 1) _ _ (sp_l1 (A 5, A 6, A 9, ln, n, cl) (I 2) bt r jj k z) (by omega) ?_ hq
                 unfold sp_l1
                 rw [hr, hbt]
                 first | exact ⟨(((hmm.i 36 (by decide) _).i 37 (by decide) _).i 38 (by decide) _).i 2 (by decide) _, i32, i33, a34, a35, congrArg (· + _) i2, g7, g8, congrArg (· + 1) i36, congrArg (· ||| _) i37, (by show _ = (if z.2.2.2.2.2.1 < rt - I 2 then rt - I 2 else z.2.2.2.2.2.1); first | (rw [if_pos (by rw [← h31, ← i33, ← i38]; exact Int32.not_le.mp c_96)]; show I2 31 - I2 33 = _; rw [h31, i33]) | (rw [if_neg (by rw [← h31, ← i33, ← i38]; exact Int32.not_lt.mpr c_96)]; exact i38)), a39, hh2, hout2⟩ | exact ⟨((hmm.a 39 (by decide) _).i 2 (by decide) _), i32, i33, a34, a35, congrArg (· + _) i2, g7, g8, i36, i37, i38, (by show upd (A2 39) (I2 30).toNatClampNeg (A2 39 (I2 30).toNatClampNeg + 1) = _; rw [h30, nI_clamp (by omega), a39]), hh2, hout2⟩)
              | (have j0 : 0 < jj := (by rcases Nat.eq_zero_or_pos jj with e | e; exact absurd (by rw [e]; decide) c_140; exact e)
                 have hbt : sp_bt bt r jj k = bt := if_neg (fun zz => c_149 (by rw [pk_rem (by omega) zz.1 (by omega), zz.2]; rfl))
                 refine ih (k + 1) _ _ (sp_l1 (A 5, A 6, A 9, ln, n, cl) (I 2) bt r jj k z) (by omega) ?_ hq
                 unfold sp_l1
                 rw [hr, hbt]
                 first | exact ⟨(((hmm.i 36 (by decide) _).i 37 (by decide) _).i 38 (by decide) _).i 2 (by decide) _, i32, i33, a34, a35, congrArg (· + _) i2, g7, g8, congrArg (· + 1) i36, congrArg (· ||| _) i37, (by show _ = (if z.2.2.2.2.2.1 < rt - I 2 then rt - I 2 else z.2.2.2.2.2.1); first | (rw [if_pos (by rw [← h31, ← i33, ← i38]; exact Int32.not_le.mp c_96)]; show I2 31 - I2 33 = _; rw [h31, i33]) | (rw [if_neg (by rw [← h31, ← i33, ← i38]; exact Int32.not_lt.mpr c_96)]; exact i38)), a39, hh2, hout2⟩ | exact ⟨((hmm.a 39 (by decide) _).i 2 (by decide) _), i32, i33, a34, a35, congrArg (· + _) i2, g7, g8, i36, i37, i38, (by show upd (A2 39) (I2 30).toNatClampNeg (A2 39 (I2 30).toNatClampNeg + 1) = _; rw [h30, nI_clamp (by omega), a39]), hh2, hout2⟩)
              | (have hbt : sp_bt bt r jj k = bt := if_neg (fun zz => absurd (nI_lt (a := 0) zz.1 (by omega)) (Int32.not_lt.mpr c_140))
                 refine ih (k + 1) _ _ (sp_l1 (A 5, A 6, A 9, ln, n, cl) (I 2) bt r jj k z) (by omega) ?_ hq
                 unfold sp_l1
                 rw [hr, hbt]
                 first | exact ⟨(((hmm.i 36 (by decide) _).i 37 (by decide) _).i 38 (by decide) _).i 2 (by decide) _, i32, i33, a34, a35, congrArg (· + _) i2, g7, g8, congrArg (· + 1) i36, congrArg (· ||| _) i37, (by show _ = (if z.2.2.2.2.2.1 < rt - I 2 then rt - I 2 else z.2.2.2.2.2.1); first | (rw [if_pos (by rw [← h31, ← i33, ← i38]; exact Int32.not_le.mp c_96)]; show I2 31 - I2 33 = _; rw [h31, i33]) | (rw [if_neg (by rw [← h31, ← i33, ← i38]; exact Int32.not_lt.mpr c_96)]; exact i38)), a39, hh2, hout2⟩ | exact ⟨((hmm.a 39 (by decide) _).i 2 (by decide) _), i32, i33, a34, a35, congrArg (· + _) i2, g7, g8, i36, i37, i38, (by show upd (A2 39) (I2 30).toNatClampNeg (A2 39 (I2 30).toNatClampNeg + 1) = _; rw [h30, nI_clamp (by omega), a39]), hh2, hout2⟩)
    | some mf =>
      intro h30 hm6
      have h30 : I2 30 = nI mf := h30
      refine wp_if_eq (t := 121) d_Mo_layTubes_56 (by decide) (fun c_56 => ?_) (fun c_56 => (absurd c_56 (by decide)))
      refine wp_aload_n d_Mo_layTubes_121 rfl rfl rfl ?_
      refine gM_39 rfl d_Mo_layTubes_122 ?_
      refine wp_aload_n d_Mo_layTubes_125 rfl rfl rfl ?_
      refine gM_30 rfl d_Mo_layTubes_126 ?_
      refine wp_dup2 d_Mo_layTubes_129 rfl rfl ?_
      refine lM_39 d_Mo_layTubes_130 (by rw [h30]; exact vp_in_nI hm6 (by decide)) ?_
      refine wp_iconst (v := 1) d_Mo_layTubes_131 rfl ?_
      refine wp_iadd d_Mo_layTubes_132 ?_
      refine sM_39 d_Mo_layTubes_133 (by rw [h30]; exact vp_in_nI hm6 (by decide)) ?_
      refine wp_aload_n d_Mo_layTubes_134 rfl rfl rfl ?_
      refine wp_dup d_Mo_layTubes_135 rfl ?_
      refine gM_2 rfl d_Mo_layTubes_136 ?_
      refine wp_iload_n d_Mo_layTubes_139 rfl rfl ?_
      refine wp_if_le (t := 159) d_Mo_layTubes_140 (by decide) (fun c_140 => ?_) (fun c_140 => ?_)
      · skip
        refine wp_iload_n d_Mo_layTubes_159 rfl rfl ?_
        refine wp_iadd d_Mo_layTubes_160 ?_
        refine pM_2 rfl d_Mo_layTubes_161 ?_
        refine wp_iinc (v := _ + 1) (ls' := [_, _, _, _, _, _]) d_Mo_layTubes_164 (by decide) rfl rfl rfl ?_
        refine wp_goto (t := 46) d_Mo_layTubes_167 (by decide) ?_
        rw [ek]
        first
          | (have j0 : 0 < jj := (by rcases Nat.eq_zero_or_pos jj with e | e; exact absurd (by rw [e]; decide) c_140; exact e)
             have hbt : sp_bt bt r jj k = bt + r := if_pos ⟨j0, (nI_eq (b := 0) (Nat.lt_of_le_of_lt (Nat.mod_le _ _) (by omega)) (by decide)).mp (by rw [pk_rem (by omega) j0 (by omega)] at c_149; exact c_149)⟩
             refine ih (k + 1) _ _ (sp_l1 (A 5, A 6, A 9, ln, n, cl) (I 2) bt r jj k z) (by omega) ?_ hq
             unfold sp_l1
             rw [hr, hbt]
             first | exact ⟨(((hmm.i 36 (by decide) _).i 37 (by decide) _).i 38 (by decide) _).i 2 (by decide) _, i32, i33, a34, a35, congrArg (· + _) i2, g7, g8, congrArg (· + 1) i36, congrArg (· ||| _) i37, (by show _ = (if z.2.2.2.2.2.1 < rt - I 2 then rt - I 2 else z.2.2.2.2.2.1); first | (rw [if_pos (by rw [← h31, ← i33, ← i38]; exact Int32.not_le.mp c_96)]; show I2 31 - I2 33 = _; rw [h31, i33]) | (rw [if_neg (by rw [← h31, ← i33, ← i38]; exact Int32.not_lt.mpr c_96)]; exact i38)), a39, hh2, hout2⟩ | exact ⟨((hmm.a 39 (by decide) _).i 2 (by decide) _), i32, i33, a34, a35, congrArg (· + _) i2, g7, g8, i36, i37, i38, (by show upd (A2 39) (I2 30).toNatClampNeg (A2 39 (I2 30).toNatClampNeg + 1) = _; rw [h30, nI_clamp (by omega), a39]), hh2, hout2⟩)
          | (have j0 : 0 < jj := (by rcases Nat.eq_zero_or_pos jj with e | e; exact absurd (by rw [e]; decide) c_140; exact e)
             have hbt : sp_bt bt r jj k = bt := if_neg (fun zz => c_149 (by rw [pk_rem (by omega) zz.1 (by omega), zz.2]; rfl))
             refine ih (k + 1) _ _ (sp_l1 (A 5, A 6, A 9, ln, n, cl) (I 2) bt r jj k z) (by omega) ?_ hq
             unfold sp_l1
             rw [hr, hbt]
             first | exact ⟨(((hmm.i 36 (by decide) _).i 37 (by decide) _).i 38 (by decide) _).i 2 (by decide) _, i32, i33, a34, a35, congrArg (· + _) i2, g7, g8, congrArg (· + 1) i36, congrArg (· ||| _) i37, (by show _ = (if z.2.2.2.2.2.1 < rt - I 2 then rt - I 2 else z.2.2.2.2.2.1); first | (rw [if_pos (by rw [← h31, ← i33, ← i38]; exact Int32.not_le.mp c_96)]; show I2 31 - I2 33 = _; rw [h31, i33]) | (rw [if_neg (by rw [← h31, ← i33, ← i38]; exact Int32.not_lt.mpr c_96)]; exact i38)), a39, hh2, hout2⟩ | exact ⟨((hmm.a 39 (by decide) _).i 2 (by decide) _), i32, i33, a34, a35, congrArg (· + _) i2, g7, g8, i36, i37, i38, (by show upd (A2 39) (I2 30).toNatClampNeg (A2 39 (I2 30).toNatClampNeg + 1) = _; rw [h30, nI_clamp (by omega), a39]), hh2, hout2⟩)
          | (have hbt : sp_bt bt r jj k = bt := if_neg (fun zz => absurd (nI_lt (a := 0) zz.1 (by omega)) (Int32.not_lt.mpr c_140))
             refine ih (k + 1) _ _ (sp_l1 (A 5, A 6, A 9, ln, n, cl) (I 2) bt r jj k z) (by omega) ?_ hq
             unfold sp_l1
             rw [hr, hbt]
             first | exact ⟨(((hmm.i 36 (by decide) _).i 37 (by decide) _).i 38 (by decide) _).i 2 (by decide) _, i32, i33, a34, a35, congrArg (· + _) i2, g7, g8, congrArg (· + 1) i36, congrArg (· ||| _) i37, (by show _ = (if z.2.2.2.2.2.1 < rt - I 2 then rt - I 2 else z.2.2.2.2.2.1); first | (rw [if_pos (by rw [← h31, ← i33, ← i38]; exact Int32.not_le.mp c_96)]; show I2 31 - I2 33 = _; rw [h31, i33]) | (rw [if_neg (by rw [← h31, ← i33, ← i38]; exact Int32.not_lt.mpr c_96)]; exact i38)), a39, hh2, hout2⟩ | exact ⟨((hmm.a 39 (by decide) _).i 2 (by decide) _), i32, i33, a34, a35, congrArg (· + _) i2, g7, g8, i36, i37, i38, (by show upd (A2 39) (I2 30).toNatClampNeg (A2 39 (I2 30).toNatClampNeg + 1) = _; rw [h30, nI_clamp (by omega), a39]), hh2, hout2⟩)
      · skip
        refine wp_iload d_Mo_layTubes_143 rfl ?_
        refine wp_iconst (v := 1) d_Mo_layTubes_145 rfl ?_
        refine wp_iadd d_Mo_layTubes_146 ?_
        rw [ek]
        refine wp_iload_n d_Mo_layTubes_147 rfl rfl ?_
        refine wp_irem d_Mo_layTubes_148 (by intro e; rw [e] at c_140; exact c_140 (by decide)) ?_
        refine wp_if_ne (t := 159) d_Mo_layTubes_149 (by decide) (fun c_149 => ?_) (fun c_149 => ?_)
        · skip
          refine wp_iload_n d_Mo_layTubes_159 rfl rfl ?_
          refine wp_iadd d_Mo_layTubes_160 ?_
          refine pM_2 rfl d_Mo_layTubes_161 ?_
          refine wp_iinc (v := _ + 1) (ls' := [_, _, _, _, _, _]) d_Mo_layTubes_164 (by decide) rfl rfl rfl ?_
          refine wp_goto (t := 46) d_Mo_layTubes_167 (by decide) ?_
          rw [ek]
          first
            | (have j0 : 0 < jj := (by rcases Nat.eq_zero_or_pos jj with e | e; exact absurd (by rw [e]; decide) c_140; exact e)
               have hbt : sp_bt bt r jj k = bt + r := if_pos ⟨j0, (nI_eq (b := 0) (Nat.lt_of_le_of_lt (Nat.mod_le _ _) (by omega)) (by decide)).mp (by rw [pk_rem (by omega) j0 (by omega)] at c_149; exact c_149)⟩
               refine ih (k + 1) _ _ (sp_l1 (A 5, A 6, A 9, ln, n, cl) (I 2) bt r jj k z) (by omega) ?_ hq
               unfold sp_l1
               rw [hr, hbt]
               first | exact ⟨(((hmm.i 36 (by decide) _).i 37 (by decide) _).i 38 (by decide) _).i 2 (by decide) _, i32, i33, a34, a35, congrArg (· + _) i2, g7, g8, congrArg (· + 1) i36, congrArg (· ||| _) i37, (by show _ = (if z.2.2.2.2.2.1 < rt - I 2 then rt - I 2 else z.2.2.2.2.2.1); first | (rw [if_pos (by rw [← h31, ← i33, ← i38]; exact Int32.not_le.mp c_96)]; show I2 31 - I2 33 = _; rw [h31, i33]) | (rw [if_neg (by rw [← h31, ← i33, ← i38]; exact Int32.not_lt.mpr c_96)]; exact i38)), a39, hh2, hout2⟩ | exact ⟨((hmm.a 39 (by decide) _).i 2 (by decide) _), i32, i33, a34, a35, congrArg (· + _) i2, g7, g8, i36, i37, i38, (by show upd (A2 39) (I2 30).toNatClampNeg (A2 39 (I2 30).toNatClampNeg + 1) = _; rw [h30, nI_clamp (by omega), a39]), hh2, hout2⟩)
            | (have j0 : 0 < jj := (by rcases Nat.eq_zero_or_pos jj with e | e; exact absurd (by rw [e]; decide) c_140; exact e)
               have hbt : sp_bt bt r jj k = bt := if_neg (fun zz => c_149 (by rw [pk_rem (by omega) zz.1 (by omega), zz.2]; rfl))
               refine ih (k + 1) _ _ (sp_l1 (A 5, A 6, A 9, ln, n, cl) (I 2) bt r jj k z) (by omega) ?_ hq
               unfold sp_l1
               rw [hr, hbt]
               first | exact ⟨(((hmm.i 36 (by decide) _).i 37 (by decide) _).i 38 (by decide) _).i 2 (by decide) _, i32, i33, a34, a35, congrArg (· + _) i2, g7, g8, congrArg (· + 1) i36, congrArg (· ||| _) i37, (by show _ = (if z.2.2.2.2.2.1 < rt - I 2 then rt - I 2 else z.2.2.2.2.2.1); first | (rw [if_pos (by rw [← h31, ← i33, ← i38]; exact Int32.not_le.mp c_96)]; show I2 31 - I2 33 = _; rw [h31, i33]) | (rw [if_neg (by rw [← h31, ← i33, ← i38]; exact Int32.not_lt.mpr c_96)]; exact i38)), a39, hh2, hout2⟩ | exact ⟨((hmm.a 39 (by decide) _).i 2 (by decide) _), i32, i33, a34, a35, congrArg (· + _) i2, g7, g8, i36, i37, i38, (by show upd (A2 39) (I2 30).toNatClampNeg (A2 39 (I2 30).toNatClampNeg + 1) = _; rw [h30, nI_clamp (by omega), a39]), hh2, hout2⟩)
            | (have hbt : sp_bt bt r jj k = bt := if_neg (fun zz => absurd (nI_lt (a := 0) zz.1 (by omega)) (Int32.not_lt.mpr c_140))
               refine ih (k + 1) _ _ (sp_l1 (A 5, A 6, A 9, ln, n, cl) (I 2) bt r jj k z) (by omega) ?_ hq
               unfold sp_l1
               rw [hr, hbt]
               first | exact ⟨(((hmm.i 36 (by decide) _).i 37 (by decide) _).i 38 (by decide) _).i 2 (by decide) _, i32, i33, a34, a35, congrArg (· + _) i2, g7, g8, congrArg (· + 1) i36, congrArg (· ||| _) i37, (by show _ = (if z.2.2.2.2.2.1 < rt - I 2 then rt - I 2 else z.2.2.2.2.2.1); first | (rw [if_pos (by rw [← h31, ← i33, ← i38]; exact Int32.not_le.mp c_96)]; show I2 31 - I2 33 = _; rw [h31, i33]) | (rw [if_neg (by rw [← h31, ← i33, ← i38]; exact Int32.not_lt.mpr c_96)]; exact i38)), a39, hh2, hout2⟩ | exact ⟨((hmm.a 39 (by decide) _).i 2 (by decide) _), i32, i33, a34, a35, congrArg (· + _) i2, g7, g8, i36, i37, i38, (by show upd (A2 39) (I2 30).toNatClampNeg (A2 39 (I2 30).toNatClampNeg + 1) = _; rw [h30, nI_clamp (by omega), a39]), hh2, hout2⟩)
        · skip
          refine wp_iload_n d_Mo_layTubes_152 rfl rfl ?_
          refine wp_iload d_Mo_layTubes_153 rfl ?_
          refine wp_iadd d_Mo_layTubes_155 ?_
          refine wp_goto (t := 160) d_Mo_layTubes_156 (by decide) ?_
          refine wp_iadd d_Mo_layTubes_160 ?_
          refine pM_2 rfl d_Mo_layTubes_161 ?_
          refine wp_iinc (v := _ + 1) (ls' := [_, _, _, _, _, _]) d_Mo_layTubes_164 (by decide) rfl rfl rfl ?_
          refine wp_goto (t := 46) d_Mo_layTubes_167 (by decide) ?_
          rw [ek]
          first
            | (have j0 : 0 < jj := (by rcases Nat.eq_zero_or_pos jj with e | e; exact absurd (by rw [e]; decide) c_140; exact e)
               have hbt : sp_bt bt r jj k = bt + r := if_pos ⟨j0, (nI_eq (b := 0) (Nat.lt_of_le_of_lt (Nat.mod_le _ _) (by omega)) (by decide)).mp (by rw [pk_rem (by omega) j0 (by omega)] at c_149; exact c_149)⟩
               refine ih (k + 1) _ _ (sp_l1 (A 5, A 6, A 9, ln, n, cl) (I 2) bt r jj k z) (by omega) ?_ hq
               unfold sp_l1
               rw [hr, hbt]
               first | exact ⟨(((hmm.i 36 (by decide) _).i 37 (by decide) _).i 38 (by decide) _).i 2 (by decide) _, i32, i33, a34, a35, congrArg (· + _) i2, g7, g8, congrArg (· + 1) i36, congrArg (· ||| _) i37, (by show _ = (if z.2.2.2.2.2.1 < rt - I 2 then rt - I 2 else z.2.2.2.2.2.1); first | (rw [if_pos (by rw [← h31, ← i33, ← i38]; exact Int32.not_le.mp c_96)]; show I2 31 - I2 33 = _; rw [h31, i33]) | (rw [if_neg (by rw [← h31, ← i33, ← i38]; exact Int32.not_lt.mpr c_96)]; exact i38)), a39, hh2, hout2⟩ | exact ⟨((hmm.a 39 (by decide) _).i 2 (by decide) _), i32, i33, a34, a35, congrArg (· + _) i2, g7, g8, i36, i37, i38, (by show upd (A2 39) (I2 30).toNatClampNeg (A2 39 (I2 30).toNatClampNeg + 1) = _; rw [h30, nI_clamp (by omega), a39]), hh2, hout2⟩)
            | (have j0 : 0 < jj := (by rcases Nat.eq_zero_or_pos jj with e | e; exact absurd (by rw [e]; decide) c_140; exact e)
               have hbt : sp_bt bt r jj k = bt := if_neg (fun zz => c_149 (by rw [pk_rem (by omega) zz.1 (by omega), zz.2]; rfl))
               refine ih (k + 1) _ _ (sp_l1 (A 5, A 6, A 9, ln, n, cl) (I 2) bt r jj k z) (by omega) ?_ hq
               unfold sp_l1
               rw [hr, hbt]
               first | exact ⟨(((hmm.i 36 (by decide) _).i 37 (by decide) _).i 38 (by decide) _).i 2 (by decide) _, i32, i33, a34, a35, congrArg (· + _) i2, g7, g8, congrArg (· + 1) i36, congrArg (· ||| _) i37, (by show _ = (if z.2.2.2.2.2.1 < rt - I 2 then rt - I 2 else z.2.2.2.2.2.1); first | (rw [if_pos (by rw [← h31, ← i33, ← i38]; exact Int32.not_le.mp c_96)]; show I2 31 - I2 33 = _; rw [h31, i33]) | (rw [if_neg (by rw [← h31, ← i33, ← i38]; exact Int32.not_lt.mpr c_96)]; exact i38)), a39, hh2, hout2⟩ | exact ⟨((hmm.a 39 (by decide) _).i 2 (by decide) _), i32, i33, a34, a35, congrArg (· + _) i2, g7, g8, i36, i37, i38, (by show upd (A2 39) (I2 30).toNatClampNeg (A2 39 (I2 30).toNatClampNeg + 1) = _; rw [h30, nI_clamp (by omega), a39]), hh2, hout2⟩)
            | (have hbt : sp_bt bt r jj k = bt := if_neg (fun zz => absurd (nI_lt (a := 0) zz.1 (by omega)) (Int32.not_lt.mpr c_140))
               refine ih (k + 1) _ _ (sp_l1 (A 5, A 6, A 9, ln, n, cl) (I 2) bt r jj k z) (by omega) ?_ hq
               unfold sp_l1
               rw [hr, hbt]
               first | exact ⟨(((hmm.i 36 (by decide) _).i 37 (by decide) _).i 38 (by decide) _).i 2 (by decide) _, i32, i33, a34, a35, congrArg (· + _) i2, g7, g8, congrArg (· + 1) i36, congrArg (· ||| _) i37, (by show _ = (if z.2.2.2.2.2.1 < rt - I 2 then rt - I 2 else z.2.2.2.2.2.1); first | (rw [if_pos (by rw [← h31, ← i33, ← i38]; exact Int32.not_le.mp c_96)]; show I2 31 - I2 33 = _; rw [h31, i33]) | (rw [if_neg (by rw [← h31, ← i33, ← i38]; exact Int32.not_lt.mpr c_96)]; exact i38)), a39, hh2, hout2⟩ | exact ⟨((hmm.a 39 (by decide) _).i 2 (by decide) _), i32, i33, a34, a35, congrArg (· + _) i2, g7, g8, i36, i37, i38, (by show upd (A2 39) (I2 30).toNatClampNeg (A2 39 (I2 30).toNatClampNeg + 1) = _; rw [h30, nI_clamp (by omega), a39]), hh2, hout2⟩)
set_option maxRecDepth 4000 in
theorem l_Mo_layTubes_22 {bt r : Int32} {nn jj : Nat} (hD : 5 ≤ D) (k : px_W G D 0 0 m_Mo_layTubes 46 [some (.ref X.length), some (.int (nI nn)), some (.int bt), some (.int (nI jj)), some (.int r), some (.int (nI 0))] [] (HM X I (va_up A 39 (sp_cp (fun _ => 0) (A 39) 6)) L E) Q) : ∀ (q i : Nat), i + q = 6 → px_W G D 0 0 m_Mo_layTubes 22 [some (.ref X.length), some (.int (nI nn)), some (.int bt), some (.int (nI jj)), some (.int r), some (.int (nI i))] [] (HM X I (va_up A 39 (sp_cp (fun _ => 0) (A 39) i)) L E) Q := by
  intro q
  induction q with
  | zero =>
    intro i hi
    have hi6 : i = 6 := by omega
    subst hi6
    refine wp_iload d_Mo_layTubes_22 rfl ?_
    refine wp_bipush (v := 6) d_Mo_layTubes_24 (by decide) ?_
    refine wp_icmp_ge (t := 43) d_Mo_layTubes_26 (by decide) (fun c_26 => ?_) (fun c_26 => absurd (by decide) c_26)
    refine wp_iconst (v := 0) d_Mo_layTubes_43 rfl ?_
    refine wp_istore (ls' := [_, _, _, _, _, _]) d_Mo_layTubes_44 (by decide) rfl ?_
    exact k
  | succ q ih =>
    intro i hi
    refine wp_iload d_Mo_layTubes_22 rfl ?_
    refine wp_bipush (v := 6) d_Mo_layTubes_24 (by decide) ?_
    refine wp_icmp_ge (t := 43) d_Mo_layTubes_26 (by decide) (fun c_26 => absurd c_26 (nI_ge (b := 6) (by omega) (by decide))) (fun c_26 => ?_)
    refine wp_aload_n d_Mo_layTubes_29 rfl rfl rfl ?_
    refine gM_39 rfl d_Mo_layTubes_30 ?_
    refine wp_iload d_Mo_layTubes_33 rfl ?_
    refine wp_iconst (v := 0) d_Mo_layTubes_35 rfl ?_
    refine sM_39 d_Mo_layTubes_36 (vp_in_nI (by omega) (by decide)) ?_
    refine wp_iinc (v := _ + 1) (ls' := [_, _, _, _, _, _]) d_Mo_layTubes_37 (by decide) rfl rfl rfl ?_
    refine wp_goto (t := 22) d_Mo_layTubes_40 (by decide) ?_
    rw [bx_uu, nI_clamp (by omega), show nI i + 1 = nI (i + 1) from nI_1 i]
    rw [show upd (va_up A 39 (sp_cp (fun _ => 0) (A 39) i) 39) i 0 = sp_cp (fun _ => 0) (A 39) (i + 1) from sp_cp_s (f := fun _ => 0)]
    exact ih (i + 1) (by omega)
set_option maxRecDepth 4000 in
theorem c_Mo_layTubes {n b : Nat} {ln : Nat → Nat} {cl : List sp_Cl} {bt r : Int32} {nn jj : Nat} (hD : 5 ≤ D) (hw : mo_w I A n ln b cl) (hh : mo_h A) (e32 : I 32 = 9999) (hn30 : nn ≤ 30) (hj : jj ≤ 60) (k : ∀ (I' : Nat → Int32) (A' : Nat → Nat → Int32), ms [29, 30, 31, 33, 36, 37, 38] [28, 34, 35, 39] I I' A A' → I' 36 = (sp_lay (A 5, A 6, A 9, ln, n, cl) (I 2) (A 7) (A 8) (sp_cp (fun _ => 0) (A 39) 6) nn bt r jj).2.2.2.1 → I' 37 = (sp_lay (A 5, A 6, A 9, ln, n, cl) (I 2) (A 7) (A 8) (sp_cp (fun _ => 0) (A 39) 6) nn bt r jj).2.2.2.2.1 → I' 38 = (sp_lay (A 5, A 6, A 9, ln, n, cl) (I 2) (A 7) (A 8) (sp_cp (fun _ => 0) (A 39) 6) nn bt r jj).2.2.2.2.2.1 → A' 39 = (sp_lay (A 5, A 6, A 9, ln, n, cl) (I 2) (A 7) (A 8) (sp_cp (fun _ => 0) (A 39) 6) nn bt r jj).2.2.2.2.2.2 → Q none (HM X I' A' L E)) : px_W G D 0 0 m_Mo_layTubes 0 (px_ent 6 [.ref X.length, .int (nI nn), .int bt, .int (nI jj), .int r]) [] (HM X I A L E) Q := by
  show px_W _ _ _ _ _ _ [some (.ref X.length), some (.int (nI nn)), some (.int bt), some (.int (nI jj)), some (.int r), none] [] _ _
  refine wp_aload_n d_Mo_layTubes_0 rfl rfl rfl ?_
  refine wp_callV (r := (R_12, T_12, 70)) (M' := m_Mo_save) (as := []) (D' := D - 1) (C1 := 0) (C2 := 0) (S1 := 0) (S2 := 0) d_Mo_layTubes_1 rfl w_1386 w_1388 w_49 hm_0 k_Mo_save (Nat.le_of_ble_eq_true rfl) rfl (Nat.le_of_ble_eq_true rfl) (by omega) rfl rfl ?_
  refine c_Mo_save (by omega)  ?_
  refine wp_aload_n d_Mo_layTubes_4 rfl rfl rfl ?_
  refine wp_iconst (v := 0) d_Mo_layTubes_5 rfl ?_
  refine pM_36 rfl d_Mo_layTubes_6 ?_
  refine wp_aload_n d_Mo_layTubes_9 rfl rfl rfl ?_
  refine wp_iconst (v := 0) d_Mo_layTubes_10 rfl ?_
  refine pM_37 rfl d_Mo_layTubes_11 ?_
  refine wp_aload_n d_Mo_layTubes_14 rfl rfl rfl ?_
  refine wp_iconst (v := 0) d_Mo_layTubes_15 rfl ?_
  refine pM_38 rfl d_Mo_layTubes_16 ?_
  refine wp_iconst (v := 0) d_Mo_layTubes_19 rfl ?_
  refine wp_istore (ls' := [_, _, _, _, _, _]) d_Mo_layTubes_20 (by decide) rfl ?_
  rw [show ∀ (J : Nat → Int32) (B : Nat → Nat → Int32), HM X J B L E = HM X J (va_up B 39 (sp_cp (fun _ => 0) (B 39) 0)) L E from fun J B => by rw [sp_cp_0, va_us]]
  refine l_Mo_layTubes_22 hD ?_ 6 0 (by omega)
  refine l_Mo_layTubes_46 hD hw e32 hn30 hj nn 0 _ _ (I 2, A 7, A 8, 0, 0, 0, sp_cp (fun _ => 0) (A 39) 6) (by omega) ?_ k
  refine ⟨?_, rfl, rfl, rfl, rfl, rfl, rfl, rfl, rfl, rfl, rfl, rfl, hh, fun x hx => ⟨rfl, rfl⟩⟩
  refine ⟨fun k hk => ?_, fun k hk => ?_⟩
  · simp only [List.mem_cons, not_or] at hk
    simp only [upd]
    simp only [hk, if_false]
  · simp only [List.mem_cons, not_or] at hk
    simp only [va_up, mo_sv]
    simp only [hk, if_false]
end MOB
