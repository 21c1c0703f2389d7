/-- the bodies that ran, as the class keeps them -/
def rn (R : Nat → Int32) (t : sp_T) : Prop := R 0 = nI t.1 ∧ ∀ i, i < 20 → R (1 + i) = t.2 i
/-- but for that nothing changes -/
def rk (K K2 : tc_K) : Prop := tk [5] K K2 ∧ K2.1 5 = K.1 5 ∧ K2.2.2.1 5 = K.2.2.1 5 ∧ K2.2.2.2.1 5 = K.2.2.2.1 5 ∧ ∀ q, q ≠ 6 → K2.2.1 5 q = K.2.1 5 q
theorem rk.tr {K K1 K2 : tc_K} (h : rk K K1) (h2 : rk K1 K2) : rk K K2 := ⟨h.1.tr h2.1, h2.2.1.trans h.2.1, h2.2.2.1.trans h.2.2.1, h2.2.2.2.1.trans h.2.2.2.1, fun q hq => (h2.2.2.2.2 q hq).trans (h.2.2.2.2 q hq)⟩
theorem rk.put (K : tc_K) (R : Nat → Int32) : rk K (kB K 5 (va_up (K.2.1 5) 6 R)) := ⟨tk.rf.b 5 (by decide) _, rfl, rfl, rfl, fun q hq => if_neg hq⟩
theorem rk.rf {K : tc_K} : rk K K := ⟨tk.rf, rfl, rfl, rfl, fun _ _ => rfl⟩
theorem gk_Ma_7 : ∀ k, k < 7 → px_GR "TubeChain$Man" 7 (5 + k) 0 := by
  intro k hk
  match k, hk with
  | 0, _ => exact gf_Ma_7_5
  | 1, _ => exact gf_Ma_7_6
  | 2, _ => exact gf_Ma_7_7
  | 3, _ => exact gf_Ma_7_8
  | 4, _ => exact gf_Ma_7_9
  | 5, _ => exact gf_Ma_7_10
  | 6, _ => exact gf_Ma_7_11
theorem gk_Ma_13 : ∀ k, k < 7 → px_GR "TubeChain$Man" 13 (5 + k) 1 := by
  intro k hk
  match k, hk with
  | 0, _ => exact gf_Ma_13_5
  | 1, _ => exact gf_Ma_13_6
  | 2, _ => exact gf_Ma_13_7
  | 3, _ => exact gf_Ma_13_8
  | 4, _ => exact gf_Ma_13_9
  | 5, _ => exact gf_Ma_13_10
  | 6, _ => exact gf_Ma_13_11
section TDM
variable {G : px_G} {D : Nat} {K K1 : tc_K} {MZ h : px_H} {r r1 : tc_r} {Q : Option Value → px_H → Prop} {mn : tc_mn} {sc : tc_sc} {B : Nat} {S : sp_St} {t0 : Int32} {hl fr : Nat → Int32}
set_option maxRecDepth 4000 in
theorem c_Ma_begin {b : Int32} {t : sp_T} (hD : 0 ≤ D) (hrn : rn (K.2.1 5 6) t) (ht : t.1 ≤ 1000) (k : ∀ K2, rk K K2 → rn (K2.2.1 5 6) (sp_bd t b) → Q none (HT K2 MZ r)) : px_W G D 0 0 m_Ma_begin 0 (px_ent 2 [.int b, .ref 56]) [] (HT K MZ r) Q := by
  show px_W _ _ _ _ _ _ [some (.int b), some (.ref 56)] [] _ _
  refine wp_aload_n d_Ma_begin_0 rfl rfl rfl ?_
  refine wp_iconst (v := (nI 0)) d_Ma_begin_1 rfl ?_
  refine wp_dup2 d_Ma_begin_2 rfl rfl ?_
  refine lA_56 d_Ma_begin_3 (vp_in_nI (n := 0) (by decide) (by decide)) ?_
  rw [show K.2.1 5 6 (nI 0).toNatClampNeg = nI t.1 from hrn.1]
  refine wp_iconst (v := 1) d_Ma_begin_4 rfl ?_
  refine wp_iadd d_Ma_begin_5 ?_
  rw [nI_1]
  refine sA_56 d_Ma_begin_6 (vp_in_nI (n := 0) (by decide) (by decide)) ?_
  refine wp_aload_n d_Ma_begin_7 rfl rfl rfl ?_
  refine wp_iconst (v := (nI 0)) d_Ma_begin_8 rfl ?_
  refine lA_56 d_Ma_begin_9 (vp_in_nI (n := 0) (by decide) (by decide)) ?_
  rw [show (kB K 5 (va_up (K.2.1 5) 6 (upd (K.2.1 5 6) (nI 0).toNatClampNeg (nI (t.1 + 1))))).2.1 5 6 (nI 0).toNatClampNeg = nI (t.1 + 1) from rfl]
  refine wp_aload_n d_Ma_begin_10 rfl rfl rfl ?_
  refine wp_alen (t0 := 0) d_Ma_begin_11 ta_56 rfl (show Int32.ofNat 21 = nI 21 from rfl) ?_
  refine wp_icmp_ge (t := 21) d_Ma_begin_12 (by decide) (fun c_12 => ?_) (fun c_12 => ?_)
  · skip
    refine wp_return d_Ma_begin_21 rfl ?_
    rw [sp_bd] at k
    first
      | (rw [nI_clamp (show t.1 + 1 < 2 ^ 31 by omega)]
         rw [if_pos h20] at k
         refine k _ ((rk.put K _).tr (rk.put _ _)) ⟨?_, fun i hi => ?_⟩
         · show (if 0 = t.1 + 1 then b else (if 0 = 0 then nI (t.1 + 1) else K.2.1 5 6 0)) = nI (t.1 + 1)
           rw [if_neg (by omega), if_pos rfl]
         · show (if 1 + i = t.1 + 1 then b else (if 1 + i = 0 then nI (t.1 + 1) else K.2.1 5 6 (1 + i))) = (if i = t.1 then b else t.2 i)
           by_cases e : i = t.1
           · rw [if_pos e, if_pos (by omega)]
           · rw [if_neg e, if_neg (by omega), if_neg (by omega)]; exact hrn.2 i hi)
      | (have h20 : ¬ t.1 < 20 := fun z => absurd c_12 (nI_ge (by omega) (by omega))
         rw [if_neg h20] at k
         refine k _ (rk.put K _) ⟨rfl, fun i hi => ?_⟩
         show (if 1 + i = 0 then nI (t.1 + 1) else K.2.1 5 6 (1 + i)) = t.2 i
         rw [if_neg (by omega)]
         exact hrn.2 i hi)
  · skip
    refine wp_aload_n d_Ma_begin_15 rfl rfl rfl ?_
    refine wp_aload_n d_Ma_begin_16 rfl rfl rfl ?_
    refine wp_iconst (v := (nI 0)) d_Ma_begin_17 rfl ?_
    refine lA_56 d_Ma_begin_18 (vp_in_nI (n := 0) (by decide) (by decide)) ?_
    rw [show (kB K 5 (va_up (K.2.1 5) 6 (upd (K.2.1 5 6) (nI 0).toNatClampNeg (nI (t.1 + 1))))).2.1 5 6 (nI 0).toNatClampNeg = nI (t.1 + 1) from rfl]
    have h20 : t.1 < 20 := by
      have := (nI_ltI (by omega) (by decide)).mp (Int32.not_le.mp c_12)
      omega
    refine wp_iload_n d_Ma_begin_19 rfl rfl ?_
    refine sA_56 d_Ma_begin_20 (vp_in_nI (by omega) (by decide)) ?_
    refine wp_return d_Ma_begin_21 rfl ?_
    rw [sp_bd] at k
    first
      | (rw [nI_clamp (show t.1 + 1 < 2 ^ 31 by omega)]
         rw [if_pos h20] at k
         refine k _ ((rk.put K _).tr (rk.put _ _)) ⟨?_, fun i hi => ?_⟩
         · show (if 0 = t.1 + 1 then b else (if 0 = 0 then nI (t.1 + 1) else K.2.1 5 6 0)) = nI (t.1 + 1)
           rw [if_neg (by omega), if_pos rfl]
         · show (if 1 + i = t.1 + 1 then b else (if 1 + i = 0 then nI (t.1 + 1) else K.2.1 5 6 (1 + i))) = (if i = t.1 then b else t.2 i)
           by_cases e : i = t.1
           · rw [if_pos e, if_pos (by omega)]
           · rw [if_neg e, if_neg (by omega), if_neg (by omega)]; exact hrn.2 i hi)
      | (have h20 : ¬ t.1 < 20 := fun z => absurd c_12 (nI_ge (by omega) (by omega))
         rw [if_neg h20] at k
         refine k _ (rk.put K _) ⟨rfl, fun i hi => ?_⟩
         show (if 1 + i = 0 then nI (t.1 + 1) else K.2.1 5 6 (1 + i)) = t.2 i
         rw [if_neg (by omega)]
         exact hrn.2 i hi)
set_option maxRecDepth 4000 in
theorem c_Ma_tosses {m k0 n v : Nat} {x : Int32} {t : sp_T} (hD : 1 ≤ D) (hR : tc_R mn sc MZ r) (hmm : mn m = some (k0, n, v)) (hrn : rn (K.2.1 5 6) t) (ht : t.1 ≤ 990) (k : ∀ K2, rk K K2 → rn (K2.2.1 5 6) (sp_mth n x t).2 → Q (some (.int (sp_mth n x t).1)) (HT K2 MZ r)) : px_W G D 0 0 m_Ma_tosses 0 (px_ent 3 [.ref m, .int x, .ref 56]) [] (HT K MZ r) Q := by
  have hk := (hR.2.1 m k0 n v hmm).1
  have hRm : ∀ K1, (HT K1 MZ r)[m]? = some (.inr (5 + k0, [.int (nI n), .int (nI v)])) := fun K1 => hR.man hmm
  show px_W _ _ _ _ _ _ [some (.ref m), some (.int x), some (.ref 56)] [] _ _
  refine wp_bipush (v := 10) d_Ma_tosses_0 (by decide) ?_
  refine wp_aload_n d_Ma_tosses_2 rfl rfl rfl ?_
  refine wp_callS (M' := m_Ma_begin) (as := [_, _]) (D' := D - 1) (C1 := 0) (C2 := 0) (S1 := 0) (S2 := 0) d_Ma_tosses_3 w_891 w_869 k_Ma_begin (Nat.le_of_ble_eq_true rfl) rfl (Nat.le_of_ble_eq_true rfl) (by omega) rfl rfl ?_
  refine c_Ma_begin (by omega) hrn (by omega) (fun K1 hk1 hr1 => ?_)
  refine wp_iload_n d_Ma_tosses_6 rfl rfl ?_
  refine wp_aload_n d_Ma_tosses_7 rfl rfl rfl ?_
  refine wp_getf d_Ma_tosses_8 (gk_Ma_7 _ hk) (hRm K1) rfl ?_
  refine wp_iadd d_Ma_tosses_11 ?_
  refine wp_ireturn d_Ma_tosses_12 rfl rfl ?_
  exact k _ hk1 hr1
set_option maxRecDepth 4000 in
theorem c_Gl_tosses7 {m k0 n v : Nat} {x : Int32} {t : sp_T} (hD : 2 ≤ D) (hR : tc_R mn sc MZ r) (hmm : mn m = some (k0, n, v)) (hrn : rn (K.2.1 5 6) t) (ht : t.1 ≤ 980) (hkk : k0 = 2) (k : ∀ K2, rk K K2 → rn (K2.2.1 5 6) (sp_mth n (x * 3) (sp_bd t 30)).2 → Q (some (.int (sp_mth n (x * 3) (sp_bd t 30)).1)) (HT K2 MZ r)) : px_W G D 0 0 m_Gl_tosses 0 (px_ent 3 [.ref m, .int x, .ref 56]) [] (HT K MZ r) Q := by
  have hk := (hR.2.1 m k0 n v hmm).1
  subst hkk
  have hRm : ∀ K1, (HT K1 MZ r)[m]? = some (.inr (5 + 2, [.int (nI n), .int (nI v)])) := fun K1 => hR.man hmm
  show px_W _ _ _ _ _ _ [some (.ref m), some (.int x), some (.ref 56)] [] _ _
  refine wp_bipush (v := 30) d_Gl_tosses_0 (by decide) ?_
  refine wp_aload_n d_Gl_tosses_2 rfl rfl rfl ?_
  refine wp_callSX (C0 := "TubeChain$Gloved") (M' := m_Ma_begin) (as := [_, _]) (D' := D - 1) (C1 := 0) (C2 := 0) (S1 := 0) (S2 := 0) d_Gl_tosses_3 w_877 w_878 w_869 k_Ma_begin (Nat.le_of_ble_eq_true rfl) rfl (Nat.le_of_ble_eq_true rfl) (by omega) rfl rfl ?_
  refine c_Ma_begin (by omega) hrn (by omega) (fun K1 hk1 hr1 => ?_)
  refine wp_aload_n d_Gl_tosses_6 rfl rfl rfl ?_
  refine wp_iload_n d_Gl_tosses_7 rfl rfl ?_
  refine wp_iconst (v := 3) d_Gl_tosses_8 rfl ?_
  refine wp_imul d_Gl_tosses_9 ?_
  refine wp_aload_n d_Gl_tosses_10 rfl rfl rfl ?_
  refine wp_callSU (M' := m_Ma_tosses) (as := [_, _]) (D' := D - 1) (C1 := 0) (C2 := 0) (S1 := 0) (S2 := 0) (r := (R_7, T_7, 2)) d_Gl_tosses_11 rfl w_879 w_863 w_355 w_861 (by decide) (hRm K1) k_Ma_tosses (Nat.le_of_ble_eq_true rfl) rfl (Nat.le_of_ble_eq_true rfl) (by omega) rfl rfl ?_
  refine c_Ma_tosses (by omega) hR hmm hr1 (by show _ + 1 ≤ _; omega) (fun K2 hk2 hr2 => ?_)
  refine wp_ireturn d_Gl_tosses_14 rfl rfl ?_
  exact k _ (hk1.tr hk2) hr2
set_option maxRecDepth 4000 in
theorem c_Gl_tosses10 {m k0 n v : Nat} {x : Int32} {t : sp_T} (hD : 2 ≤ D) (hR : tc_R mn sc MZ r) (hmm : mn m = some (k0, n, v)) (hrn : rn (K.2.1 5 6) t) (ht : t.1 ≤ 980) (hkk : k0 = 5) (k : ∀ K2, rk K K2 → rn (K2.2.1 5 6) (sp_mth n (x * 3) (sp_bd t 30)).2 → Q (some (.int (sp_mth n (x * 3) (sp_bd t 30)).1)) (HT K2 MZ r)) : px_W G D 0 0 m_Gl_tosses 0 (px_ent 3 [.ref m, .int x, .ref 56]) [] (HT K MZ r) Q := by
  have hk := (hR.2.1 m k0 n v hmm).1
  subst hkk
  have hRm : ∀ K1, (HT K1 MZ r)[m]? = some (.inr (5 + 5, [.int (nI n), .int (nI v)])) := fun K1 => hR.man hmm
  show px_W _ _ _ _ _ _ [some (.ref m), some (.int x), some (.ref 56)] [] _ _
  refine wp_bipush (v := 30) d_Gl_tosses_0 (by decide) ?_
  refine wp_aload_n d_Gl_tosses_2 rfl rfl rfl ?_
  refine wp_callSX (C0 := "TubeChain$Gloved") (M' := m_Ma_begin) (as := [_, _]) (D' := D - 1) (C1 := 0) (C2 := 0) (S1 := 0) (S2 := 0) d_Gl_tosses_3 w_877 w_878 w_869 k_Ma_begin (Nat.le_of_ble_eq_true rfl) rfl (Nat.le_of_ble_eq_true rfl) (by omega) rfl rfl ?_
  refine c_Ma_begin (by omega) hrn (by omega) (fun K1 hk1 hr1 => ?_)
  refine wp_aload_n d_Gl_tosses_6 rfl rfl rfl ?_
  refine wp_iload_n d_Gl_tosses_7 rfl rfl ?_
  refine wp_iconst (v := 3) d_Gl_tosses_8 rfl ?_
  refine wp_imul d_Gl_tosses_9 ?_
  refine wp_aload_n d_Gl_tosses_10 rfl rfl rfl ?_
  refine wp_callSU (M' := m_Ma_tosses) (as := [_, _]) (D' := D - 1) (C1 := 0) (C2 := 0) (S1 := 0) (S2 := 0) (r := (R_10, T_10, 2)) d_Gl_tosses_11 rfl w_879 w_863 w_355 w_861 (by decide) (hRm K1) k_Ma_tosses (Nat.le_of_ble_eq_true rfl) rfl (Nat.le_of_ble_eq_true rfl) (by omega) rfl rfl ?_
  refine c_Ma_tosses (by omega) hR hmm hr1 (by show _ + 1 ≤ _; omega) (fun K2 hk2 hr2 => ?_)
  refine wp_ireturn d_Gl_tosses_14 rfl rfl ?_
  exact k _ (hk1.tr hk2) hr2
set_option maxRecDepth 4000 in
theorem c_Ca_tosses {m k0 n v : Nat} {x : Int32} {t : sp_T} (hD : 2 ≤ D) (hR : tc_R mn sc MZ r) (hmm : mn m = some (k0, n, v)) (hrn : rn (K.2.1 5 6) t) (ht : t.1 ≤ 980) (hkk : k0 = 4) (k : ∀ K2, rk K K2 → rn (K2.2.1 5 6) ((-(sp_mth n x (sp_bd t 50)).1, (sp_mth n x (sp_bd t 50)).2)).2 → Q (some (.int ((-(sp_mth n x (sp_bd t 50)).1, (sp_mth n x (sp_bd t 50)).2)).1)) (HT K2 MZ r)) : px_W G D 0 0 m_Ca_tosses 0 (px_ent 3 [.ref m, .int x, .ref 56]) [] (HT K MZ r) Q := by
  have hk := (hR.2.1 m k0 n v hmm).1
  subst hkk
  have hRm : ∀ K1, (HT K1 MZ r)[m]? = some (.inr (5 + 4, [.int (nI n), .int (nI v)])) := fun K1 => hR.man hmm
  show px_W _ _ _ _ _ _ [some (.ref m), some (.int x), some (.ref 56)] [] _ _
  refine wp_bipush (v := 50) d_Ca_tosses_0 (by decide) ?_
  refine wp_aload_n d_Ca_tosses_2 rfl rfl rfl ?_
  refine wp_callSX (C0 := "TubeChain$Calling") (M' := m_Ma_begin) (as := [_, _]) (D' := D - 1) (C1 := 0) (C2 := 0) (S1 := 0) (S2 := 0) d_Ca_tosses_3 w_867 w_868 w_869 k_Ma_begin (Nat.le_of_ble_eq_true rfl) rfl (Nat.le_of_ble_eq_true rfl) (by omega) rfl rfl ?_
  refine c_Ma_begin (by omega) hrn (by omega) (fun K1 hk1 hr1 => ?_)
  refine wp_aload_n d_Ca_tosses_6 rfl rfl rfl ?_
  refine wp_iload_n d_Ca_tosses_7 rfl rfl ?_
  refine wp_aload_n d_Ca_tosses_8 rfl rfl rfl ?_
  refine wp_callUX (C0 := "TubeChain$Strong") (M' := m_Ma_tosses) (as := [_, _]) (D' := D - 1) (C1 := 0) (C2 := 0) (S1 := 0) (S2 := 0) (r := (R_9, T_9, 2)) d_Ca_tosses_9 rfl w_871 w_872 w_373 w_346 w_861 (by decide) (hRm K1) k_Ma_tosses (Nat.le_of_ble_eq_true rfl) rfl (Nat.le_of_ble_eq_true rfl) (by omega) rfl rfl ?_
  refine c_Ma_tosses (by omega) hR hmm hr1 (by show _ + 1 ≤ _; omega) (fun K2 hk2 hr2 => ?_)
  refine wp_ineg d_Ca_tosses_12 ?_
  refine wp_ireturn d_Ca_tosses_13 rfl rfl ?_
  exact k _ (hk1.tr hk2) hr2
set_option maxRecDepth 4000 in
theorem c_To_tosses {m k0 n v : Nat} {x : Int32} {t : sp_T} (hD : 2 ≤ D) (hR : tc_R mn sc MZ r) (hmm : mn m = some (k0, n, v)) (hrn : rn (K.2.1 5 6) t) (ht : t.1 ≤ 980) (hkk : k0 = 6) (k : ∀ K2, rk K K2 → rn (K2.2.1 5 6) (((sp_mth n x (sp_bd t 71)).1 ^^^ nI v, (sp_mth n x (sp_bd t 71)).2)).2 → Q (some (.int (((sp_mth n x (sp_bd t 71)).1 ^^^ nI v, (sp_mth n x (sp_bd t 71)).2)).1)) (HT K2 MZ r)) : px_W G D 0 0 m_To_tosses 0 (px_ent 3 [.ref m, .int x, .ref 56]) [] (HT K MZ r) Q := by
  have hk := (hR.2.1 m k0 n v hmm).1
  subst hkk
  have hRm : ∀ K1, (HT K1 MZ r)[m]? = some (.inr (5 + 6, [.int (nI n), .int (nI v)])) := fun K1 => hR.man hmm
  show px_W _ _ _ _ _ _ [some (.ref m), some (.int x), some (.ref 56)] [] _ _
  refine wp_bipush (v := 71) d_To_tosses_0 (by decide) ?_
  refine wp_aload_n d_To_tosses_2 rfl rfl rfl ?_
  refine wp_callSX (C0 := "TubeChain$Told") (M' := m_Ma_begin) (as := [_, _]) (D' := D - 1) (C1 := 0) (C2 := 0) (S1 := 0) (S2 := 0) d_To_tosses_3 w_886 w_887 w_869 k_Ma_begin (Nat.le_of_ble_eq_true rfl) rfl (Nat.le_of_ble_eq_true rfl) (by omega) rfl rfl ?_
  refine c_Ma_begin (by omega) hrn (by omega) (fun K1 hk1 hr1 => ?_)
  refine wp_aload_n d_To_tosses_6 rfl rfl rfl ?_
  refine wp_iload_n d_To_tosses_7 rfl rfl ?_
  refine wp_aload_n d_To_tosses_8 rfl rfl rfl ?_
  refine wp_callUX (C0 := "TubeChain$Tiring") (M' := m_Ma_tosses) (as := [_, _]) (D' := D - 1) (C1 := 0) (C2 := 0) (S1 := 0) (S2 := 0) (r := (R_11, T_11, 2)) d_To_tosses_9 rfl w_888 w_889 w_391 w_364 w_861 (by decide) (hRm K1) k_Ma_tosses (Nat.le_of_ble_eq_true rfl) rfl (Nat.le_of_ble_eq_true rfl) (by omega) rfl rfl ?_
  refine c_Ma_tosses (by omega) hR hmm hr1 (by show _ + 1 ≤ _; omega) (fun K2 hk2 hr2 => ?_)
  refine wp_aload_n d_To_tosses_12 rfl rfl rfl ?_
  refine wp_getf d_To_tosses_13 gf_To_24_11 (hRm K2) rfl ?_
  refine wp_ixor d_To_tosses_16 ?_
  refine wp_ireturn d_To_tosses_17 rfl rfl ?_
  exact k _ (hk1.tr hk2) hr2
theorem v_tosses_TC {C S pc : Nat} {M : px_M} {ls : px_L} {st : List Value} {m k0 n v : Nat} {x : Int32} {t : sp_T} (hM : M.1.cls = "TubeChain") (d : decode M.2.1 pc = .ok (.invokevirtual 290, 3)) (hst : (st.map fun v => v.category).sum ≤ 8) (hD : 4 ≤ D) (hR : tc_R mn sc MZ r) (hmm : mn m = some (k0, n, v)) (hrn : rn (K.2.1 5 6) t) (ht : t.1 ≤ 970) (k : ∀ K2, rk K K2 → rn (K2.2.1 5 6) (sp_tho (nI k0) (nI v) n x t).2 → px_W G D C S M (pc + 3) ls (.int (sp_tho (nI k0) (nI v) n x t).1 :: st) (HT K2 MZ r) Q) : px_W G D C S M pc ls (.ref 56 :: .int x :: .ref m :: st) (HT K MZ r) Q := by
  have he := hR.man (K := K) hmm
  have hk := (hR.2.1 m k0 n v hmm).1
  match k0, hk, he, hmm, k with
  | 0, _, he, hmm, k =>
    refine wp_callV (r := (R_5, T_5, 2)) (M' := m_Ma_tosses) (as := [_, _]) (D' := D - 1) (C1 := 0) (C2 := C) (S1 := 0) (S2 := S) d rfl (by rw [hM]; exact w_860) w_861 w_862 he k_Ma_tosses (Nat.le_of_ble_eq_true rfl) rfl hst (by omega) (Nat.zero_add _).symm (Nat.zero_add _).symm ?_
    exact c_Ma_tosses (by omega) hR hmm hrn (by omega) k
  | 1, _, he, hmm, k =>
    refine wp_callV (r := (R_6, T_6, 2)) (M' := m_Ma_tosses) (as := [_, _]) (D' := D - 1) (C1 := 0) (C2 := C) (S1 := 0) (S2 := S) d rfl (by rw [hM]; exact w_860) w_861 w_881 he k_Ma_tosses (Nat.le_of_ble_eq_true rfl) rfl hst (by omega) (Nat.zero_add _).symm (Nat.zero_add _).symm ?_
    exact c_Ma_tosses (by omega) hR hmm hrn (by omega) k
  | 2, _, he, hmm, k =>
    refine wp_callU (r := (R_7, T_7, 2)) (x := ⟨"TubeChain$Man", "tosses", "(I[I)I"⟩) (owner := "TubeChain$Man") (M' := m_Gl_tosses) (as := [_, _]) (D' := D - 1) (C1 := 0) (C2 := C) (S1 := 0) (S2 := S) d rfl rfl (by rw [hM]; exact w_860) w_863 w_874 w_875 w_861 (px_in (px_t4 (List.mem_of_getElem? (i := 98) rfl)) rfl) ⟨by decide, by decide⟩ he k_Gl_tosses (Nat.le_of_ble_eq_true rfl) rfl hst (by omega) (Nat.zero_add _).symm (Nat.zero_add _).symm ?_
    exact c_Gl_tosses7 (by omega) hR hmm hrn (by omega) rfl k
  | 3, _, he, hmm, k =>
    refine wp_callV (r := (R_8, T_8, 2)) (M' := m_Ma_tosses) (as := [_, _]) (D' := D - 1) (C1 := 0) (C2 := C) (S1 := 0) (S2 := S) d rfl (by rw [hM]; exact w_860) w_861 w_882 he k_Ma_tosses (Nat.le_of_ble_eq_true rfl) rfl hst (by omega) (Nat.zero_add _).symm (Nat.zero_add _).symm ?_
    exact c_Ma_tosses (by omega) hR hmm hrn (by omega) k
  | 4, _, he, hmm, k =>
    refine wp_callU (r := (R_9, T_9, 2)) (x := ⟨"TubeChain$Man", "tosses", "(I[I)I"⟩) (owner := "TubeChain$Man") (M' := m_Ca_tosses) (as := [_, _]) (D' := D - 1) (C1 := 0) (C2 := C) (S1 := 0) (S2 := S) d rfl rfl (by rw [hM]; exact w_860) w_863 w_864 w_865 w_861 (px_in (px_t4 (List.mem_of_getElem? (i := 98) rfl)) rfl) ⟨by decide, by decide⟩ he k_Ca_tosses (Nat.le_of_ble_eq_true rfl) rfl hst (by omega) (Nat.zero_add _).symm (Nat.zero_add _).symm ?_
    exact c_Ca_tosses (by omega) hR hmm hrn (by omega) rfl k
  | 5, _, he, hmm, k =>
    refine wp_callU (r := (R_10, T_10, 2)) (x := ⟨"TubeChain$Man", "tosses", "(I[I)I"⟩) (owner := "TubeChain$Man") (M' := m_Gl_tosses) (as := [_, _]) (D' := D - 1) (C1 := 0) (C2 := C) (S1 := 0) (S2 := S) d rfl rfl (by rw [hM]; exact w_860) w_863 w_880 w_875 w_861 (px_in (px_t4 (List.mem_of_getElem? (i := 98) rfl)) rfl) ⟨by decide, by decide⟩ he k_Gl_tosses (Nat.le_of_ble_eq_true rfl) rfl hst (by omega) (Nat.zero_add _).symm (Nat.zero_add _).symm ?_
    exact c_Gl_tosses10 (by omega) hR hmm hrn (by omega) rfl k
  | 6, _, he, hmm, k =>
    refine wp_callU (r := (R_11, T_11, 2)) (x := ⟨"TubeChain$Man", "tosses", "(I[I)I"⟩) (owner := "TubeChain$Man") (M' := m_To_tosses) (as := [_, _]) (D' := D - 1) (C1 := 0) (C2 := C) (S1 := 0) (S2 := S) d rfl rfl (by rw [hM]; exact w_860) w_863 w_883 w_884 w_861 (px_in (px_t4 (List.mem_of_getElem? (i := 98) rfl)) rfl) ⟨by decide, by decide⟩ he k_To_tosses (Nat.le_of_ble_eq_true rfl) rfl hst (by omega) (Nat.zero_add _).symm (Nat.zero_add _).symm ?_
    exact c_To_tosses (by omega) hR hmm hrn (by omega) rfl k
theorem v_tosses_Ma {C S pc : Nat} {M : px_M} {ls : px_L} {st : List Value} {m k0 n v : Nat} {x : Int32} {t : sp_T} (hM : M.1.cls = "TubeChain$Man") (d : decode M.2.1 pc = .ok (.invokevirtual 20, 3)) (hst : (st.map fun v => v.category).sum ≤ 8) (hD : 4 ≤ D) (hR : tc_R mn sc MZ r) (hmm : mn m = some (k0, n, v)) (hrn : rn (K.2.1 5 6) t) (ht : t.1 ≤ 970) (k : ∀ K2, rk K K2 → rn (K2.2.1 5 6) (sp_tho (nI k0) (nI v) n x t).2 → px_W G D C S M (pc + 3) ls (.int (sp_tho (nI k0) (nI v) n x t).1 :: st) (HT K2 MZ r) Q) : px_W G D C S M pc ls (.ref 56 :: .int x :: .ref m :: st) (HT K MZ r) Q := by
  have he := hR.man (K := K) hmm
  have hk := (hR.2.1 m k0 n v hmm).1
  match k0, hk, he, hmm, k with
  | 0, _, he, hmm, k =>
    refine wp_callV (r := (R_5, T_5, 2)) (M' := m_Ma_tosses) (as := [_, _]) (D' := D - 1) (C1 := 0) (C2 := C) (S1 := 0) (S2 := S) d rfl (by rw [hM]; exact w_916) w_861 w_862 he k_Ma_tosses (Nat.le_of_ble_eq_true rfl) rfl hst (by omega) (Nat.zero_add _).symm (Nat.zero_add _).symm ?_
    exact c_Ma_tosses (by omega) hR hmm hrn (by omega) k
  | 1, _, he, hmm, k =>
    refine wp_callV (r := (R_6, T_6, 2)) (M' := m_Ma_tosses) (as := [_, _]) (D' := D - 1) (C1 := 0) (C2 := C) (S1 := 0) (S2 := S) d rfl (by rw [hM]; exact w_916) w_861 w_881 he k_Ma_tosses (Nat.le_of_ble_eq_true rfl) rfl hst (by omega) (Nat.zero_add _).symm (Nat.zero_add _).symm ?_
    exact c_Ma_tosses (by omega) hR hmm hrn (by omega) k
  | 2, _, he, hmm, k =>
    refine wp_callU (r := (R_7, T_7, 2)) (x := ⟨"TubeChain$Man", "tosses", "(I[I)I"⟩) (owner := "TubeChain$Man") (M' := m_Gl_tosses) (as := [_, _]) (D' := D - 1) (C1 := 0) (C2 := C) (S1 := 0) (S2 := S) d rfl rfl (by rw [hM]; exact w_916) w_863 w_874 w_875 w_861 (px_in (px_t4 (List.mem_of_getElem? (i := 98) rfl)) rfl) ⟨by decide, by decide⟩ he k_Gl_tosses (Nat.le_of_ble_eq_true rfl) rfl hst (by omega) (Nat.zero_add _).symm (Nat.zero_add _).symm ?_
    exact c_Gl_tosses7 (by omega) hR hmm hrn (by omega) rfl k
  | 3, _, he, hmm, k =>
    refine wp_callV (r := (R_8, T_8, 2)) (M' := m_Ma_tosses) (as := [_, _]) (D' := D - 1) (C1 := 0) (C2 := C) (S1 := 0) (S2 := S) d rfl (by rw [hM]; exact w_916) w_861 w_882 he k_Ma_tosses (Nat.le_of_ble_eq_true rfl) rfl hst (by omega) (Nat.zero_add _).symm (Nat.zero_add _).symm ?_
    exact c_Ma_tosses (by omega) hR hmm hrn (by omega) k
  | 4, _, he, hmm, k =>
    refine wp_callU (r := (R_9, T_9, 2)) (x := ⟨"TubeChain$Man", "tosses", "(I[I)I"⟩) (owner := "TubeChain$Man") (M' := m_Ca_tosses) (as := [_, _]) (D' := D - 1) (C1 := 0) (C2 := C) (S1 := 0) (S2 := S) d rfl rfl (by rw [hM]; exact w_916) w_863 w_864 w_865 w_861 (px_in (px_t4 (List.mem_of_getElem? (i := 98) rfl)) rfl) ⟨by decide, by decide⟩ he k_Ca_tosses (Nat.le_of_ble_eq_true rfl) rfl hst (by omega) (Nat.zero_add _).symm (Nat.zero_add _).symm ?_
    exact c_Ca_tosses (by omega) hR hmm hrn (by omega) rfl k
  | 5, _, he, hmm, k =>
    refine wp_callU (r := (R_10, T_10, 2)) (x := ⟨"TubeChain$Man", "tosses", "(I[I)I"⟩) (owner := "TubeChain$Man") (M' := m_Gl_tosses) (as := [_, _]) (D' := D - 1) (C1 := 0) (C2 := C) (S1 := 0) (S2 := S) d rfl rfl (by rw [hM]; exact w_916) w_863 w_880 w_875 w_861 (px_in (px_t4 (List.mem_of_getElem? (i := 98) rfl)) rfl) ⟨by decide, by decide⟩ he k_Gl_tosses (Nat.le_of_ble_eq_true rfl) rfl hst (by omega) (Nat.zero_add _).symm (Nat.zero_add _).symm ?_
    exact c_Gl_tosses10 (by omega) hR hmm hrn (by omega) rfl k
  | 6, _, he, hmm, k =>
    refine wp_callU (r := (R_11, T_11, 2)) (x := ⟨"TubeChain$Man", "tosses", "(I[I)I"⟩) (owner := "TubeChain$Man") (M' := m_To_tosses) (as := [_, _]) (D' := D - 1) (C1 := 0) (C2 := C) (S1 := 0) (S2 := S) d rfl rfl (by rw [hM]; exact w_916) w_863 w_883 w_884 w_861 (px_in (px_t4 (List.mem_of_getElem? (i := 98) rfl)) rfl) ⟨by decide, by decide⟩ he k_To_tosses (Nat.le_of_ble_eq_true rfl) rfl hst (by omega) (Nat.zero_add _).symm (Nat.zero_add _).symm ?_
    exact c_To_tosses (by omega) hR hmm hrn (by omega) rfl k
set_option maxRecDepth 4000 in
theorem c_Ma_takes {m k0 n v : Nat} {x : Int32} {t : sp_T} (hD : 5 ≤ D) (hR : tc_R mn sc MZ r) (hmm : mn m = some (k0, n, v)) (hrn : rn (K.2.1 5 6) t) (ht : t.1 ≤ 960) (k : ∀ K2, rk K K2 → rn (K2.2.1 5 6) (sp_mtk (nI k0) (nI v) n x t).2 → Q (some (.int (sp_mtk (nI k0) (nI v) n x t).1)) (HT K2 MZ r)) : px_W G D 0 0 m_Ma_takes 0 (px_ent 3 [.ref m, .int x, .ref 56]) [] (HT K MZ r) Q := by
  have hk := (hR.2.1 m k0 n v hmm).1
  have hRm : ∀ K1, (HT K1 MZ r)[m]? = some (.inr (5 + k0, [.int (nI n), .int (nI v)])) := fun K1 => hR.man hmm
  show px_W _ _ _ _ _ _ [some (.ref m), some (.int x), some (.ref 56)] [] _ _
  refine wp_bipush (v := 11) d_Ma_takes_0 (by decide) ?_
  refine wp_aload_n d_Ma_takes_2 rfl rfl rfl ?_
  refine wp_callS (M' := m_Ma_begin) (as := [_, _]) (D' := D - 1) (C1 := 0) (C2 := 0) (S1 := 0) (S2 := 0) d_Ma_takes_3 w_891 w_869 k_Ma_begin (Nat.le_of_ble_eq_true rfl) rfl (Nat.le_of_ble_eq_true rfl) (by omega) rfl rfl ?_
  refine c_Ma_begin (by omega) hrn (by omega) (fun K1 hk1 hr1 => ?_)
  refine wp_aload_n d_Ma_takes_6 rfl rfl rfl ?_
  refine wp_iload_n d_Ma_takes_7 rfl rfl ?_
  refine wp_aload_n d_Ma_takes_8 rfl rfl rfl ?_
  refine v_tosses_Ma rfl d_Ma_takes_9 (Nat.le_of_ble_eq_true rfl) (by omega) hR hmm hr1 (by show _ + 1 ≤ _; omega) (fun K2 hk2 hr2 => ?_)
  refine wp_aload_n d_Ma_takes_12 rfl rfl rfl ?_
  refine wp_getf d_Ma_takes_13 (gk_Ma_13 _ hk) (hRm K2) rfl ?_
  refine wp_isub d_Ma_takes_16 ?_
  refine wp_ireturn d_Ma_takes_17 rfl rfl ?_
  exact k _ (hk1.tr hk2) hr2
set_option maxRecDepth 4000 in
theorem c_St_takes6 {m k0 n v : Nat} {x : Int32} {t : sp_T} (hD : 6 ≤ D) (hR : tc_R mn sc MZ r) (hmm : mn m = some (k0, n, v)) (hrn : rn (K.2.1 5 6) t) (ht : t.1 ≤ 950) (hkk : k0 = 1) (k : ∀ K2, rk K K2 → rn (K2.2.1 5 6) (sp_stk (nI 1) (nI v) n x t).2 → Q (some (.int (sp_stk (nI 1) (nI v) n x t).1)) (HT K2 MZ r)) : px_W G D 0 0 m_St_takes 0 (px_ent 3 [.ref m, .int x, .ref 56]) [] (HT K MZ r) Q := by
  have hk := (hR.2.1 m k0 n v hmm).1
  subst hkk
  have hRm : ∀ K1, (HT K1 MZ r)[m]? = some (.inr (5 + 1, [.int (nI n), .int (nI v)])) := fun K1 => hR.man hmm
  show px_W _ _ _ _ _ _ [some (.ref m), some (.int x), some (.ref 56)] [] _ _
  refine wp_bipush (v := 20) d_St_takes_0 (by decide) ?_
  refine wp_aload_n d_St_takes_2 rfl rfl rfl ?_
  refine wp_callSX (C0 := "TubeChain$Strong") (M' := m_Ma_begin) (as := [_, _]) (D' := D - 1) (C1 := 0) (C2 := 0) (S1 := 0) (S2 := 0) d_St_takes_3 w_902 w_903 w_869 k_Ma_begin (Nat.le_of_ble_eq_true rfl) rfl (Nat.le_of_ble_eq_true rfl) (by omega) rfl rfl ?_
  refine c_Ma_begin (by omega) hrn (by omega) (fun K1 hk1 hr1 => ?_)
  refine wp_aload_n d_St_takes_6 rfl rfl rfl ?_
  refine wp_iload_n d_St_takes_7 rfl rfl ?_
  refine wp_aload_n d_St_takes_8 rfl rfl rfl ?_
  refine wp_callSU (M' := m_Ma_takes) (as := [_, _]) (D' := D - 1) (C1 := 0) (C2 := 0) (S1 := 0) (S2 := 0) (r := (R_6, T_6, 2)) d_St_takes_9 rfl w_904 w_895 w_346 w_893 (by decide) (hRm K1) k_Ma_takes (Nat.le_of_ble_eq_true rfl) rfl (Nat.le_of_ble_eq_true rfl) (by omega) rfl rfl ?_
  refine c_Ma_takes (by omega) hR hmm hr1 (by show _ + 1 ≤ _; omega) (fun K2 hk2 hr2 => ?_)
  refine wp_bipush (v := 6) d_St_takes_12 (by decide) ?_
  refine wp_ixor d_St_takes_14 ?_
  refine wp_ireturn d_St_takes_15 rfl rfl ?_
  exact k _ (hk1.tr hk2) hr2
set_option maxRecDepth 4000 in
theorem c_St_takes9 {m k0 n v : Nat} {x : Int32} {t : sp_T} (hD : 6 ≤ D) (hR : tc_R mn sc MZ r) (hmm : mn m = some (k0, n, v)) (hrn : rn (K.2.1 5 6) t) (ht : t.1 ≤ 950) (hkk : k0 = 4) (k : ∀ K2, rk K K2 → rn (K2.2.1 5 6) (sp_stk (nI 4) (nI v) n x t).2 → Q (some (.int (sp_stk (nI 4) (nI v) n x t).1)) (HT K2 MZ r)) : px_W G D 0 0 m_St_takes 0 (px_ent 3 [.ref m, .int x, .ref 56]) [] (HT K MZ r) Q := by
  have hk := (hR.2.1 m k0 n v hmm).1
  subst hkk
  have hRm : ∀ K1, (HT K1 MZ r)[m]? = some (.inr (5 + 4, [.int (nI n), .int (nI v)])) := fun K1 => hR.man hmm
  show px_W _ _ _ _ _ _ [some (.ref m), some (.int x), some (.ref 56)] [] _ _
  refine wp_bipush (v := 20) d_St_takes_0 (by decide) ?_
  refine wp_aload_n d_St_takes_2 rfl rfl rfl ?_
  refine wp_callSX (C0 := "TubeChain$Strong") (M' := m_Ma_begin) (as := [_, _]) (D' := D - 1) (C1 := 0) (C2 := 0) (S1 := 0) (S2 := 0) d_St_takes_3 w_902 w_903 w_869 k_Ma_begin (Nat.le_of_ble_eq_true rfl) rfl (Nat.le_of_ble_eq_true rfl) (by omega) rfl rfl ?_
  refine c_Ma_begin (by omega) hrn (by omega) (fun K1 hk1 hr1 => ?_)
  refine wp_aload_n d_St_takes_6 rfl rfl rfl ?_
  refine wp_iload_n d_St_takes_7 rfl rfl ?_
  refine wp_aload_n d_St_takes_8 rfl rfl rfl ?_
  refine wp_callSU (M' := m_Ma_takes) (as := [_, _]) (D' := D - 1) (C1 := 0) (C2 := 0) (S1 := 0) (S2 := 0) (r := (R_9, T_9, 2)) d_St_takes_9 rfl w_904 w_895 w_346 w_893 (by decide) (hRm K1) k_Ma_takes (Nat.le_of_ble_eq_true rfl) rfl (Nat.le_of_ble_eq_true rfl) (by omega) rfl rfl ?_
  refine c_Ma_takes (by omega) hR hmm hr1 (by show _ + 1 ≤ _; omega) (fun K2 hk2 hr2 => ?_)
  refine wp_bipush (v := 6) d_St_takes_12 (by decide) ?_
  refine wp_ixor d_St_takes_14 ?_
  refine wp_ireturn d_St_takes_15 rfl rfl ?_
  exact k _ (hk1.tr hk2) hr2
set_option maxRecDepth 4000 in
theorem c_Ca_takes {m k0 n v : Nat} {x : Int32} {t : sp_T} (hD : 7 ≤ D) (hR : tc_R mn sc MZ r) (hmm : mn m = some (k0, n, v)) (hrn : rn (K.2.1 5 6) t) (ht : t.1 ≤ 940) (hkk : k0 = 4) (k : ∀ K2, rk K K2 → rn (K2.2.1 5 6) (sp_stk (nI 4) (nI v) n (x + 1) (sp_bd t 51)).2 → Q (some (.int (sp_stk (nI 4) (nI v) n (x + 1) (sp_bd t 51)).1)) (HT K2 MZ r)) : px_W G D 0 0 m_Ca_takes 0 (px_ent 3 [.ref m, .int x, .ref 56]) [] (HT K MZ r) Q := by
  have hk := (hR.2.1 m k0 n v hmm).1
  subst hkk
  have hRm : ∀ K1, (HT K1 MZ r)[m]? = some (.inr (5 + 4, [.int (nI n), .int (nI v)])) := fun K1 => hR.man hmm
  show px_W _ _ _ _ _ _ [some (.ref m), some (.int x), some (.ref 56)] [] _ _
  refine wp_bipush (v := 51) d_Ca_takes_0 (by decide) ?_
  refine wp_aload_n d_Ca_takes_2 rfl rfl rfl ?_
  refine wp_callSX (C0 := "TubeChain$Calling") (M' := m_Ma_begin) (as := [_, _]) (D' := D - 1) (C1 := 0) (C2 := 0) (S1 := 0) (S2 := 0) d_Ca_takes_3 w_867 w_868 w_869 k_Ma_begin (Nat.le_of_ble_eq_true rfl) rfl (Nat.le_of_ble_eq_true rfl) (by omega) rfl rfl ?_
  refine c_Ma_begin (by omega) hrn (by omega) (fun K1 hk1 hr1 => ?_)
  refine wp_aload_n d_Ca_takes_6 rfl rfl rfl ?_
  refine wp_iload_n d_Ca_takes_7 rfl rfl ?_
  refine wp_iconst (v := 1) d_Ca_takes_8 rfl ?_
  refine wp_iadd d_Ca_takes_9 ?_
  refine wp_aload_n d_Ca_takes_10 rfl rfl rfl ?_
  refine wp_callSU (M' := m_St_takes) (as := [_, _]) (D' := D - 1) (C1 := 0) (C2 := 0) (S1 := 0) (S2 := 0) (r := (R_9, T_9, 2)) d_Ca_takes_11 rfl w_899 w_1590 w_373 w_900 (by decide) (hRm K1) k_St_takes (Nat.le_of_ble_eq_true rfl) rfl (Nat.le_of_ble_eq_true rfl) (by omega) rfl rfl ?_
  refine c_St_takes9 (by omega) hR hmm hr1 (by show _ + 1 ≤ _; omega) rfl (fun K2 hk2 hr2 => ?_)
  refine wp_ireturn d_Ca_takes_14 rfl rfl ?_
  exact k _ (hk1.tr hk2) hr2
set_option maxRecDepth 4000 in
theorem c_To_takes {m k0 n v : Nat} {x : Int32} {t : sp_T} (hD : 6 ≤ D) (hR : tc_R mn sc MZ r) (hmm : mn m = some (k0, n, v)) (hrn : rn (K.2.1 5 6) t) (ht : t.1 ≤ 940) (hkk : k0 = 6) (k : ∀ K2, rk K K2 → rn (K2.2.1 5 6) (((sp_mtk (nI 6) (nI v) n x (sp_bd t 70)).1 + (sp_mth n 2 (sp_mtk (nI 6) (nI v) n x (sp_bd t 70)).2).1, (sp_mth n 2 (sp_mtk (nI 6) (nI v) n x (sp_bd t 70)).2).2)).2 → Q (some (.int (((sp_mtk (nI 6) (nI v) n x (sp_bd t 70)).1 + (sp_mth n 2 (sp_mtk (nI 6) (nI v) n x (sp_bd t 70)).2).1, (sp_mth n 2 (sp_mtk (nI 6) (nI v) n x (sp_bd t 70)).2).2)).1)) (HT K2 MZ r)) : px_W G D 0 0 m_To_takes 0 (px_ent 3 [.ref m, .int x, .ref 56]) [] (HT K MZ r) Q := by
  have hk := (hR.2.1 m k0 n v hmm).1
  subst hkk
  have hRm : ∀ K1, (HT K1 MZ r)[m]? = some (.inr (5 + 6, [.int (nI n), .int (nI v)])) := fun K1 => hR.man hmm
  show px_W _ _ _ _ _ _ [some (.ref m), some (.int x), some (.ref 56)] [] _ _
  refine wp_bipush (v := 70) d_To_takes_0 (by decide) ?_
  refine wp_aload_n d_To_takes_2 rfl rfl rfl ?_
  refine wp_callSX (C0 := "TubeChain$Told") (M' := m_Ma_begin) (as := [_, _]) (D' := D - 1) (C1 := 0) (C2 := 0) (S1 := 0) (S2 := 0) d_To_takes_3 w_886 w_887 w_869 k_Ma_begin (Nat.le_of_ble_eq_true rfl) rfl (Nat.le_of_ble_eq_true rfl) (by omega) rfl rfl ?_
  refine c_Ma_begin (by omega) hrn (by omega) (fun K1 hk1 hr1 => ?_)
  refine wp_aload_n d_To_takes_6 rfl rfl rfl ?_
  refine wp_iload_n d_To_takes_7 rfl rfl ?_
  refine wp_aload_n d_To_takes_8 rfl rfl rfl ?_
  refine wp_callUX (C0 := "TubeChain$Tiring") (M' := m_Ma_takes) (as := [_, _]) (D' := D - 1) (C1 := 0) (C2 := 0) (S1 := 0) (S2 := 0) (r := (R_11, T_11, 2)) d_To_takes_9 rfl w_912 w_913 w_391 w_364 w_893 (by decide) (hRm K1) k_Ma_takes (Nat.le_of_ble_eq_true rfl) rfl (Nat.le_of_ble_eq_true rfl) (by omega) rfl rfl ?_
  refine c_Ma_takes (by omega) hR hmm hr1 (by show _ + 1 ≤ _; omega) (fun K2 hk2 hr2 => ?_)
  refine wp_aload_n d_To_takes_12 rfl rfl rfl ?_
  refine wp_iconst (v := 2) d_To_takes_13 rfl ?_
  refine wp_aload_n d_To_takes_14 rfl rfl rfl ?_
  refine wp_callUX (C0 := "TubeChain$Tiring") (M' := m_Ma_tosses) (as := [_, _]) (D' := D - 1) (C1 := 0) (C2 := 0) (S1 := 0) (S2 := 0) (r := (R_11, T_11, 2)) d_To_takes_15 rfl w_888 w_889 w_391 w_364 w_861 (by decide) (hRm K2) k_Ma_tosses (Nat.le_of_ble_eq_true rfl) rfl (Nat.le_of_ble_eq_true rfl) (by omega) rfl rfl ?_
  refine c_Ma_tosses (by omega) hR hmm hr2 (by have := sp_mtk_1 (k := nI 6) (v := nI v) (i := n) (x := x) (t := sp_bd t 70); have : (sp_bd t 70).1 = t.1 + 1 := rfl; omega) (fun K3 hk3 hr3 => ?_)
  refine wp_iadd d_To_takes_18 ?_
  refine wp_ireturn d_To_takes_19 rfl rfl ?_
  exact k _ ((hk1.tr hk2).tr hk3) hr3
theorem v_takes_TC {C S pc : Nat} {M : px_M} {ls : px_L} {st : List Value} {m k0 n v : Nat} {x : Int32} {t : sp_T} (hM : M.1.cls = "TubeChain") (d : decode M.2.1 pc = .ok (.invokevirtual 294, 3)) (hst : (st.map fun v => v.category).sum ≤ 8) (hD : 8 ≤ D) (hR : tc_R mn sc MZ r) (hmm : mn m = some (k0, n, v)) (hrn : rn (K.2.1 5 6) t) (ht : t.1 ≤ 930) (k : ∀ K2, rk K K2 → rn (K2.2.1 5 6) (sp_tak (nI k0) (nI v) n x t).2 → px_W G D C S M (pc + 3) ls (.int (sp_tak (nI k0) (nI v) n x t).1 :: st) (HT K2 MZ r) Q) : px_W G D C S M pc ls (.ref 56 :: .int x :: .ref m :: st) (HT K MZ r) Q := by
  have he := hR.man (K := K) hmm
  have hk := (hR.2.1 m k0 n v hmm).1
  match k0, hk, he, hmm, k with
  | 0, _, he, hmm, k =>
    refine wp_callV (r := (R_5, T_5, 2)) (M' := m_Ma_takes) (as := [_, _]) (D' := D - 1) (C1 := 0) (C2 := C) (S1 := 0) (S2 := S) d rfl (by rw [hM]; exact w_892) w_893 w_894 he k_Ma_takes (Nat.le_of_ble_eq_true rfl) rfl hst (by omega) (Nat.zero_add _).symm (Nat.zero_add _).symm ?_
    exact c_Ma_takes (by omega) hR hmm hrn (by omega) k
  | 1, _, he, hmm, k =>
    refine wp_callU (r := (R_6, T_6, 2)) (x := ⟨"TubeChain$Man", "takes", "(I[I)I"⟩) (owner := "TubeChain$Man") (M' := m_St_takes) (as := [_, _]) (D' := D - 1) (C1 := 0) (C2 := C) (S1 := 0) (S2 := S) d rfl rfl (by rw [hM]; exact w_892) w_895 w_907 w_900 w_893 (px_in (px_t4 (List.mem_of_getElem? (i := 123) rfl)) rfl) ⟨by decide, by decide⟩ he k_St_takes (Nat.le_of_ble_eq_true rfl) rfl hst (by omega) (Nat.zero_add _).symm (Nat.zero_add _).symm ?_
    exact c_St_takes6 (by omega) hR hmm hrn (by omega) rfl k
  | 2, _, he, hmm, k =>
    refine wp_callV (r := (R_7, T_7, 2)) (M' := m_Ma_takes) (as := [_, _]) (D' := D - 1) (C1 := 0) (C2 := C) (S1 := 0) (S2 := S) d rfl (by rw [hM]; exact w_892) w_893 w_905 he k_Ma_takes (Nat.le_of_ble_eq_true rfl) rfl hst (by omega) (Nat.zero_add _).symm (Nat.zero_add _).symm ?_
    exact c_Ma_takes (by omega) hR hmm hrn (by omega) k
  | 3, _, he, hmm, k =>
    refine wp_callV (r := (R_8, T_8, 2)) (M' := m_Ma_takes) (as := [_, _]) (D' := D - 1) (C1 := 0) (C2 := C) (S1 := 0) (S2 := S) d rfl (by rw [hM]; exact w_892) w_893 w_908 he k_Ma_takes (Nat.le_of_ble_eq_true rfl) rfl hst (by omega) (Nat.zero_add _).symm (Nat.zero_add _).symm ?_
    exact c_Ma_takes (by omega) hR hmm hrn (by omega) k
  | 4, _, he, hmm, k =>
    refine wp_callU (r := (R_9, T_9, 2)) (x := ⟨"TubeChain$Man", "takes", "(I[I)I"⟩) (owner := "TubeChain$Man") (M' := m_Ca_takes) (as := [_, _]) (D' := D - 1) (C1 := 0) (C2 := C) (S1 := 0) (S2 := S) d rfl rfl (by rw [hM]; exact w_892) w_895 w_896 w_897 w_893 (px_in (px_t4 (List.mem_of_getElem? (i := 123) rfl)) rfl) ⟨by decide, by decide⟩ he k_Ca_takes (Nat.le_of_ble_eq_true rfl) rfl hst (by omega) (Nat.zero_add _).symm (Nat.zero_add _).symm ?_
    exact c_Ca_takes (by omega) hR hmm hrn (by omega) rfl k
  | 5, _, he, hmm, k =>
    refine wp_callV (r := (R_10, T_10, 2)) (M' := m_Ma_takes) (as := [_, _]) (D' := D - 1) (C1 := 0) (C2 := C) (S1 := 0) (S2 := S) d rfl (by rw [hM]; exact w_892) w_893 w_906 he k_Ma_takes (Nat.le_of_ble_eq_true rfl) rfl hst (by omega) (Nat.zero_add _).symm (Nat.zero_add _).symm ?_
    exact c_Ma_takes (by omega) hR hmm hrn (by omega) k
  | 6, _, he, hmm, k =>
    refine wp_callU (r := (R_11, T_11, 2)) (x := ⟨"TubeChain$Man", "takes", "(I[I)I"⟩) (owner := "TubeChain$Man") (M' := m_To_takes) (as := [_, _]) (D' := D - 1) (C1 := 0) (C2 := C) (S1 := 0) (S2 := S) d rfl rfl (by rw [hM]; exact w_892) w_895 w_909 w_910 w_893 (px_in (px_t4 (List.mem_of_getElem? (i := 123) rfl)) rfl) ⟨by decide, by decide⟩ he k_To_takes (Nat.le_of_ble_eq_true rfl) rfl hst (by omega) (Nat.zero_add _).symm (Nat.zero_add _).symm ?_
    exact c_To_takes (by omega) hR hmm hrn (by omega) rfl k
theorem v_takes_Ma {C S pc : Nat} {M : px_M} {ls : px_L} {st : List Value} {m k0 n v : Nat} {x : Int32} {t : sp_T} (hM : M.1.cls = "TubeChain$Man") (d : decode M.2.1 pc = .ok (.invokevirtual 24, 3)) (hst : (st.map fun v => v.category).sum ≤ 8) (hD : 8 ≤ D) (hR : tc_R mn sc MZ r) (hmm : mn m = some (k0, n, v)) (hrn : rn (K.2.1 5 6) t) (ht : t.1 ≤ 930) (k : ∀ K2, rk K K2 → rn (K2.2.1 5 6) (sp_tak (nI k0) (nI v) n x t).2 → px_W G D C S M (pc + 3) ls (.int (sp_tak (nI k0) (nI v) n x t).1 :: st) (HT K2 MZ r) Q) : px_W G D C S M pc ls (.ref 56 :: .int x :: .ref m :: st) (HT K MZ r) Q := by
  have he := hR.man (K := K) hmm
  have hk := (hR.2.1 m k0 n v hmm).1
  match k0, hk, he, hmm, k with
  | 0, _, he, hmm, k =>
    refine wp_callV (r := (R_5, T_5, 2)) (M' := m_Ma_takes) (as := [_, _]) (D' := D - 1) (C1 := 0) (C2 := C) (S1 := 0) (S2 := S) d rfl (by rw [hM]; exact w_943) w_893 w_894 he k_Ma_takes (Nat.le_of_ble_eq_true rfl) rfl hst (by omega) (Nat.zero_add _).symm (Nat.zero_add _).symm ?_
    exact c_Ma_takes (by omega) hR hmm hrn (by omega) k
  | 1, _, he, hmm, k =>
    refine wp_callU (r := (R_6, T_6, 2)) (x := ⟨"TubeChain$Man", "takes", "(I[I)I"⟩) (owner := "TubeChain$Man") (M' := m_St_takes) (as := [_, _]) (D' := D - 1) (C1 := 0) (C2 := C) (S1 := 0) (S2 := S) d rfl rfl (by rw [hM]; exact w_943) w_895 w_907 w_900 w_893 (px_in (px_t4 (List.mem_of_getElem? (i := 123) rfl)) rfl) ⟨by decide, by decide⟩ he k_St_takes (Nat.le_of_ble_eq_true rfl) rfl hst (by omega) (Nat.zero_add _).symm (Nat.zero_add _).symm ?_
    exact c_St_takes6 (by omega) hR hmm hrn (by omega) rfl k
  | 2, _, he, hmm, k =>
    refine wp_callV (r := (R_7, T_7, 2)) (M' := m_Ma_takes) (as := [_, _]) (D' := D - 1) (C1 := 0) (C2 := C) (S1 := 0) (S2 := S) d rfl (by rw [hM]; exact w_943) w_893 w_905 he k_Ma_takes (Nat.le_of_ble_eq_true rfl) rfl hst (by omega) (Nat.zero_add _).symm (Nat.zero_add _).symm ?_
    exact c_Ma_takes (by omega) hR hmm hrn (by omega) k
  | 3, _, he, hmm, k =>
    refine wp_callV (r := (R_8, T_8, 2)) (M' := m_Ma_takes) (as := [_, _]) (D' := D - 1) (C1 := 0) (C2 := C) (S1 := 0) (S2 := S) d rfl (by rw [hM]; exact w_943) w_893 w_908 he k_Ma_takes (Nat.le_of_ble_eq_true rfl) rfl hst (by omega) (Nat.zero_add _).symm (Nat.zero_add _).symm ?_
    exact c_Ma_takes (by omega) hR hmm hrn (by omega) k
  | 4, _, he, hmm, k =>
    refine wp_callU (r := (R_9, T_9, 2)) (x := ⟨"TubeChain$Man", "takes", "(I[I)I"⟩) (owner := "TubeChain$Man") (M' := m_Ca_takes) (as := [_, _]) (D' := D - 1) (C1 := 0) (C2 := C) (S1 := 0) (S2 := S) d rfl rfl (by rw [hM]; exact w_943) w_895 w_896 w_897 w_893 (px_in (px_t4 (List.mem_of_getElem? (i := 123) rfl)) rfl) ⟨by decide, by decide⟩ he k_Ca_takes (Nat.le_of_ble_eq_true rfl) rfl hst (by omega) (Nat.zero_add _).symm (Nat.zero_add _).symm ?_
    exact c_Ca_takes (by omega) hR hmm hrn (by omega) rfl k
  | 5, _, he, hmm, k =>
    refine wp_callV (r := (R_10, T_10, 2)) (M' := m_Ma_takes) (as := [_, _]) (D' := D - 1) (C1 := 0) (C2 := C) (S1 := 0) (S2 := S) d rfl (by rw [hM]; exact w_943) w_893 w_906 he k_Ma_takes (Nat.le_of_ble_eq_true rfl) rfl hst (by omega) (Nat.zero_add _).symm (Nat.zero_add _).symm ?_
    exact c_Ma_takes (by omega) hR hmm hrn (by omega) k
  | 6, _, he, hmm, k =>
    refine wp_callU (r := (R_11, T_11, 2)) (x := ⟨"TubeChain$Man", "takes", "(I[I)I"⟩) (owner := "TubeChain$Man") (M' := m_To_takes) (as := [_, _]) (D' := D - 1) (C1 := 0) (C2 := C) (S1 := 0) (S2 := S) d rfl rfl (by rw [hM]; exact w_943) w_895 w_909 w_910 w_893 (px_in (px_t4 (List.mem_of_getElem? (i := 123) rfl)) rfl) ⟨by decide, by decide⟩ he k_To_takes (Nat.le_of_ble_eq_true rfl) rfl hst (by omega) (Nat.zero_add _).symm (Nat.zero_add _).symm ?_
    exact c_To_takes (by omega) hR hmm hrn (by omega) rfl k
theorem v_takes_Ti {C S pc : Nat} {M : px_M} {ls : px_L} {st : List Value} {m k0 n v : Nat} {x : Int32} {t : sp_T} (hM : M.1.cls = "TubeChain$Tiring") (d : decode M.2.1 pc = .ok (.invokevirtual 17, 3)) (hst : (st.map fun v => v.category).sum ≤ 8) (hD : 8 ≤ D) (hR : tc_R mn sc MZ r) (hmm : mn m = some (k0, n, v)) (hrn : rn (K.2.1 5 6) t) (ht : t.1 ≤ 930) (hkk : k0 = 3 ∨ k0 = 6) (k : ∀ K2, rk K K2 → rn (K2.2.1 5 6) (sp_tak (nI k0) (nI v) n x t).2 → px_W G D C S M (pc + 3) ls (.int (sp_tak (nI k0) (nI v) n x t).1 :: st) (HT K2 MZ r) Q) : px_W G D C S M pc ls (.ref 56 :: .int x :: .ref m :: st) (HT K MZ r) Q := by
  have he := hR.man (K := K) hmm
  have hk := (hR.2.1 m k0 n v hmm).1
  match k0, hk, he, hmm, k, hkk with
  | 0, _, _, _, _, hkk => exact absurd hkk (by decide)
  | 1, _, _, _, _, hkk => exact absurd hkk (by decide)
  | 2, _, _, _, _, hkk => exact absurd hkk (by decide)
  | 3, _, he, hmm, k, _ =>
    refine wp_callU (r := (R_8, T_8, 2)) (x := ⟨"TubeChain$Tiring", "takes", "(I[I)I"⟩) (owner := "TubeChain$Man") (M' := m_Ma_takes) (as := [_, _]) (D' := D - 1) (C1 := 0) (C2 := C) (S1 := 0) (S2 := S) d rfl rfl (by rw [hM]; exact w_938) w_913 w_939 w_893 w_893 (px_in (px_t4 (List.mem_of_getElem? (i := 123) rfl)) rfl) ⟨by decide, by decide⟩ he k_Ma_takes (Nat.le_of_ble_eq_true rfl) rfl hst (by omega) (Nat.zero_add _).symm (Nat.zero_add _).symm ?_
    exact c_Ma_takes (by omega) hR hmm hrn (by omega) k
  | 4, _, _, _, _, hkk => exact absurd hkk (by decide)
  | 5, _, _, _, _, hkk => exact absurd hkk (by decide)
  | 6, _, he, hmm, k, _ =>
    refine wp_callU (r := (R_11, T_11, 2)) (x := ⟨"TubeChain$Tiring", "takes", "(I[I)I"⟩) (owner := "TubeChain$Man") (M' := m_To_takes) (as := [_, _]) (D' := D - 1) (C1 := 0) (C2 := C) (S1 := 0) (S2 := S) d rfl rfl (by rw [hM]; exact w_938) w_913 w_940 w_910 w_893 (px_in (px_t4 (List.mem_of_getElem? (i := 123) rfl)) rfl) ⟨by decide, by decide⟩ he k_To_takes (Nat.le_of_ble_eq_true rfl) rfl hst (by omega) (Nat.zero_add _).symm (Nat.zero_add _).symm ?_
    exact c_To_takes (by omega) hR hmm hrn (by omega) rfl k
set_option maxRecDepth 4000 in
theorem c_Ma_tells {m k0 n v : Nat} {x : Int32} {t : sp_T} (hD : 9 ≤ D) (hR : tc_R mn sc MZ r) (hmm : mn m = some (k0, n, v)) (hrn : rn (K.2.1 5 6) t) (ht : t.1 ≤ 920) (k : ∀ K2, rk K K2 → rn (K2.2.1 5 6) (sp_mtl (nI k0) (nI v) n x t).2 → Q (some (.int (sp_mtl (nI k0) (nI v) n x t).1)) (HT K2 MZ r)) : px_W G D 0 0 m_Ma_tells 0 (px_ent 3 [.ref m, .int x, .ref 56]) [] (HT K MZ r) Q := by
  have hk := (hR.2.1 m k0 n v hmm).1
  have hRm : ∀ K1, (HT K1 MZ r)[m]? = some (.inr (5 + k0, [.int (nI n), .int (nI v)])) := fun K1 => hR.man hmm
  show px_W _ _ _ _ _ _ [some (.ref m), some (.int x), some (.ref 56)] [] _ _
  refine wp_bipush (v := 12) d_Ma_tells_0 (by decide) ?_
  refine wp_aload_n d_Ma_tells_2 rfl rfl rfl ?_
  refine wp_callS (M' := m_Ma_begin) (as := [_, _]) (D' := D - 1) (C1 := 0) (C2 := 0) (S1 := 0) (S2 := 0) d_Ma_tells_3 w_891 w_869 k_Ma_begin (Nat.le_of_ble_eq_true rfl) rfl (Nat.le_of_ble_eq_true rfl) (by omega) rfl rfl ?_
  refine c_Ma_begin (by omega) hrn (by omega) (fun K1 hk1 hr1 => ?_)
  refine wp_aload_n d_Ma_tells_6 rfl rfl rfl ?_
  refine wp_iload_n d_Ma_tells_7 rfl rfl ?_
  refine wp_aload_n d_Ma_tells_8 rfl rfl rfl ?_
  refine v_takes_Ma rfl d_Ma_tells_9 (Nat.le_of_ble_eq_true rfl) (by omega) hR hmm hr1 (by show _ + 1 ≤ _; omega) (fun K2 hk2 hr2 => ?_)
  refine wp_iconst (v := 2) d_Ma_tells_12 rfl ?_
  refine wp_imul d_Ma_tells_13 ?_
  refine wp_ireturn d_Ma_tells_14 rfl rfl ?_
  exact k _ (hk1.tr hk2) hr2
set_option maxRecDepth 4000 in
theorem c_Ti_tells8 {m k0 n v : Nat} {x : Int32} {t : sp_T} (hD : 10 ≤ D) (hR : tc_R mn sc MZ r) (hmm : mn m = some (k0, n, v)) (hrn : rn (K.2.1 5 6) t) (ht : t.1 ≤ 900) (hkk : k0 = 3) (k : ∀ K2, rk K K2 → rn (K2.2.1 5 6) (((sp_mtl (nI 3) (nI v) n x (sp_bd t 40)).1 + (sp_tak (nI 3) (nI v) n 1 (sp_mtl (nI 3) (nI v) n x (sp_bd t 40)).2).1, (sp_tak (nI 3) (nI v) n 1 (sp_mtl (nI 3) (nI v) n x (sp_bd t 40)).2).2)).2 → Q (some (.int (((sp_mtl (nI 3) (nI v) n x (sp_bd t 40)).1 + (sp_tak (nI 3) (nI v) n 1 (sp_mtl (nI 3) (nI v) n x (sp_bd t 40)).2).1, (sp_tak (nI 3) (nI v) n 1 (sp_mtl (nI 3) (nI v) n x (sp_bd t 40)).2).2)).1)) (HT K2 MZ r)) : px_W G D 0 0 m_Ti_tells 0 (px_ent 3 [.ref m, .int x, .ref 56]) [] (HT K MZ r) Q := by
  have hk := (hR.2.1 m k0 n v hmm).1
  subst hkk
  have hRm : ∀ K1, (HT K1 MZ r)[m]? = some (.inr (5 + 3, [.int (nI n), .int (nI v)])) := fun K1 => hR.man hmm
  show px_W _ _ _ _ _ _ [some (.ref m), some (.int x), some (.ref 56)] [] _ _
  refine wp_bipush (v := 40) d_Ti_tells_0 (by decide) ?_
  refine wp_aload_n d_Ti_tells_2 rfl rfl rfl ?_
  refine wp_callSX (C0 := "TubeChain$Tiring") (M' := m_Ma_begin) (as := [_, _]) (D' := D - 1) (C1 := 0) (C2 := 0) (S1 := 0) (S2 := 0) d_Ti_tells_3 w_935 w_936 w_869 k_Ma_begin (Nat.le_of_ble_eq_true rfl) rfl (Nat.le_of_ble_eq_true rfl) (by omega) rfl rfl ?_
  refine c_Ma_begin (by omega) hrn (by omega) (fun K1 hk1 hr1 => ?_)
  refine wp_aload_n d_Ti_tells_6 rfl rfl rfl ?_
  refine wp_iload_n d_Ti_tells_7 rfl rfl ?_
  refine wp_aload_n d_Ti_tells_8 rfl rfl rfl ?_
  refine wp_callSU (M' := m_Ma_tells) (as := [_, _]) (D' := D - 1) (C1 := 0) (C2 := 0) (S1 := 0) (S2 := 0) (r := (R_8, T_8, 2)) d_Ti_tells_9 rfl w_937 w_920 w_364 w_918 (by decide) (hRm K1) k_Ma_tells (Nat.le_of_ble_eq_true rfl) rfl (Nat.le_of_ble_eq_true rfl) (by omega) rfl rfl ?_
  refine c_Ma_tells (by omega) hR hmm hr1 (by show _ + 1 ≤ _; omega) (fun K2 hk2 hr2 => ?_)
  refine wp_aload_n d_Ti_tells_12 rfl rfl rfl ?_
  refine wp_iconst (v := 1) d_Ti_tells_13 rfl ?_
  refine wp_aload_n d_Ti_tells_14 rfl rfl rfl ?_
  refine v_takes_Ti rfl d_Ti_tells_15 (Nat.le_of_ble_eq_true rfl) (by omega) hR hmm hr2 (by have := sp_mtl_1 (k := nI 3) (v := nI v) (i := n) (x := x) (t := sp_bd t 40); have : (sp_bd t 40).1 = t.1 + 1 := rfl; omega) (by decide) (fun K3 hk3 hr3 => ?_)
  refine wp_iadd d_Ti_tells_18 ?_
  refine wp_ireturn d_Ti_tells_19 rfl rfl ?_
  exact k _ ((hk1.tr hk2).tr hk3) hr3
set_option maxRecDepth 4000 in
theorem c_Ti_tells11 {m k0 n v : Nat} {x : Int32} {t : sp_T} (hD : 10 ≤ D) (hR : tc_R mn sc MZ r) (hmm : mn m = some (k0, n, v)) (hrn : rn (K.2.1 5 6) t) (ht : t.1 ≤ 900) (hkk : k0 = 6) (k : ∀ K2, rk K K2 → rn (K2.2.1 5 6) (((sp_mtl (nI 6) (nI v) n x (sp_bd t 40)).1 + (sp_tak (nI 6) (nI v) n 1 (sp_mtl (nI 6) (nI v) n x (sp_bd t 40)).2).1, (sp_tak (nI 6) (nI v) n 1 (sp_mtl (nI 6) (nI v) n x (sp_bd t 40)).2).2)).2 → Q (some (.int (((sp_mtl (nI 6) (nI v) n x (sp_bd t 40)).1 + (sp_tak (nI 6) (nI v) n 1 (sp_mtl (nI 6) (nI v) n x (sp_bd t 40)).2).1, (sp_tak (nI 6) (nI v) n 1 (sp_mtl (nI 6) (nI v) n x (sp_bd t 40)).2).2)).1)) (HT K2 MZ r)) : px_W G D 0 0 m_Ti_tells 0 (px_ent 3 [.ref m, .int x, .ref 56]) [] (HT K MZ r) Q := by
  have hk := (hR.2.1 m k0 n v hmm).1
  subst hkk
  have hRm : ∀ K1, (HT K1 MZ r)[m]? = some (.inr (5 + 6, [.int (nI n), .int (nI v)])) := fun K1 => hR.man hmm
  show px_W _ _ _ _ _ _ [some (.ref m), some (.int x), some (.ref 56)] [] _ _
  refine wp_bipush (v := 40) d_Ti_tells_0 (by decide) ?_
  refine wp_aload_n d_Ti_tells_2 rfl rfl rfl ?_
  refine wp_callSX (C0 := "TubeChain$Tiring") (M' := m_Ma_begin) (as := [_, _]) (D' := D - 1) (C1 := 0) (C2 := 0) (S1 := 0) (S2 := 0) d_Ti_tells_3 w_935 w_936 w_869 k_Ma_begin (Nat.le_of_ble_eq_true rfl) rfl (Nat.le_of_ble_eq_true rfl) (by omega) rfl rfl ?_
  refine c_Ma_begin (by omega) hrn (by omega) (fun K1 hk1 hr1 => ?_)
  refine wp_aload_n d_Ti_tells_6 rfl rfl rfl ?_
  refine wp_iload_n d_Ti_tells_7 rfl rfl ?_
  refine wp_aload_n d_Ti_tells_8 rfl rfl rfl ?_
  refine wp_callSU (M' := m_Ma_tells) (as := [_, _]) (D' := D - 1) (C1 := 0) (C2 := 0) (S1 := 0) (S2 := 0) (r := (R_11, T_11, 2)) d_Ti_tells_9 rfl w_937 w_920 w_364 w_918 (by decide) (hRm K1) k_Ma_tells (Nat.le_of_ble_eq_true rfl) rfl (Nat.le_of_ble_eq_true rfl) (by omega) rfl rfl ?_
  refine c_Ma_tells (by omega) hR hmm hr1 (by show _ + 1 ≤ _; omega) (fun K2 hk2 hr2 => ?_)
  refine wp_aload_n d_Ti_tells_12 rfl rfl rfl ?_
  refine wp_iconst (v := 1) d_Ti_tells_13 rfl ?_
  refine wp_aload_n d_Ti_tells_14 rfl rfl rfl ?_
  refine v_takes_Ti rfl d_Ti_tells_15 (Nat.le_of_ble_eq_true rfl) (by omega) hR hmm hr2 (by have := sp_mtl_1 (k := nI 6) (v := nI v) (i := n) (x := x) (t := sp_bd t 40); have : (sp_bd t 40).1 = t.1 + 1 := rfl; omega) (by decide) (fun K3 hk3 hr3 => ?_)
  refine wp_iadd d_Ti_tells_18 ?_
  refine wp_ireturn d_Ti_tells_19 rfl rfl ?_
  exact k _ ((hk1.tr hk2).tr hk3) hr3
set_option maxRecDepth 4000 in
theorem c_Sl_tells {m k0 n v : Nat} {x : Int32} {t : sp_T} (hD : 10 ≤ D) (hR : tc_R mn sc MZ r) (hmm : mn m = some (k0, n, v)) (hrn : rn (K.2.1 5 6) t) (ht : t.1 ≤ 900) (hkk : k0 = 5) (k : ∀ K2, rk K K2 → rn (K2.2.1 5 6) (sp_mtl (nI 5) (nI v) n (x - nI n) (sp_bd t 60)).2 → Q (some (.int (sp_mtl (nI 5) (nI v) n (x - nI n) (sp_bd t 60)).1)) (HT K2 MZ r)) : px_W G D 0 0 m_Sl_tells 0 (px_ent 3 [.ref m, .int x, .ref 56]) [] (HT K MZ r) Q := by
  have hk := (hR.2.1 m k0 n v hmm).1
  subst hkk
  have hRm : ∀ K1, (HT K1 MZ r)[m]? = some (.inr (5 + 5, [.int (nI n), .int (nI v)])) := fun K1 => hR.man hmm
  show px_W _ _ _ _ _ _ [some (.ref m), some (.int x), some (.ref 56)] [] _ _
  refine wp_bipush (v := 60) d_Sl_tells_0 (by decide) ?_
  refine wp_aload_n d_Sl_tells_2 rfl rfl rfl ?_
  refine wp_callSX (C0 := "TubeChain$Slipping") (M' := m_Ma_begin) (as := [_, _]) (D' := D - 1) (C1 := 0) (C2 := 0) (S1 := 0) (S2 := 0) d_Sl_tells_3 w_926 w_927 w_869 k_Ma_begin (Nat.le_of_ble_eq_true rfl) rfl (Nat.le_of_ble_eq_true rfl) (by omega) rfl rfl ?_
  refine c_Ma_begin (by omega) hrn (by omega) (fun K1 hk1 hr1 => ?_)
  refine wp_aload_n d_Sl_tells_6 rfl rfl rfl ?_
  refine wp_iload_n d_Sl_tells_7 rfl rfl ?_
  refine wp_aload_n d_Sl_tells_8 rfl rfl rfl ?_
  refine wp_getf d_Sl_tells_9 gf_Sl_17_10 (hRm K1) rfl ?_
  refine wp_isub d_Sl_tells_12 ?_
  refine wp_aload_n d_Sl_tells_13 rfl rfl rfl ?_
  refine wp_callUX (C0 := "TubeChain$Gloved") (M' := m_Ma_tells) (as := [_, _]) (D' := D - 1) (C1 := 0) (C2 := 0) (S1 := 0) (S2 := 0) (r := (R_10, T_10, 2)) d_Sl_tells_14 rfl w_928 w_929 w_382 w_355 w_918 (by decide) (hRm K1) k_Ma_tells (Nat.le_of_ble_eq_true rfl) rfl (Nat.le_of_ble_eq_true rfl) (by omega) rfl rfl ?_
  refine c_Ma_tells (by omega) hR hmm hr1 (by show _ + 1 ≤ _; omega) (fun K2 hk2 hr2 => ?_)
  refine wp_ireturn d_Sl_tells_17 rfl rfl ?_
  exact k _ (hk1.tr hk2) hr2
theorem v_tells_TC {C S pc : Nat} {M : px_M} {ls : px_L} {st : List Value} {m k0 n v : Nat} {x : Int32} {t : sp_T} (hM : M.1.cls = "TubeChain") (d : decode M.2.1 pc = .ok (.invokevirtual 297, 3)) (hst : (st.map fun v => v.category).sum ≤ 8) (hD : 12 ≤ D) (hR : tc_R mn sc MZ r) (hmm : mn m = some (k0, n, v)) (hrn : rn (K.2.1 5 6) t) (ht : t.1 ≤ 890) (k : ∀ K2, rk K K2 → rn (K2.2.1 5 6) (sp_tel (nI k0) (nI v) n x t).2 → px_W G D C S M (pc + 3) ls (.int (sp_tel (nI k0) (nI v) n x t).1 :: st) (HT K2 MZ r) Q) : px_W G D C S M pc ls (.ref 56 :: .int x :: .ref m :: st) (HT K MZ r) Q := by
  have he := hR.man (K := K) hmm
  have hk := (hR.2.1 m k0 n v hmm).1
  match k0, hk, he, hmm, k with
  | 0, _, he, hmm, k =>
    refine wp_callV (r := (R_5, T_5, 2)) (M' := m_Ma_tells) (as := [_, _]) (D' := D - 1) (C1 := 0) (C2 := C) (S1 := 0) (S2 := S) d rfl (by rw [hM]; exact w_917) w_918 w_919 he k_Ma_tells (Nat.le_of_ble_eq_true rfl) rfl hst (by omega) (Nat.zero_add _).symm (Nat.zero_add _).symm ?_
    exact c_Ma_tells (by omega) hR hmm hrn (by omega) k
  | 1, _, he, hmm, k =>
    refine wp_callV (r := (R_6, T_6, 2)) (M' := m_Ma_tells) (as := [_, _]) (D' := D - 1) (C1 := 0) (C2 := C) (S1 := 0) (S2 := S) d rfl (by rw [hM]; exact w_917) w_918 w_931 he k_Ma_tells (Nat.le_of_ble_eq_true rfl) rfl hst (by omega) (Nat.zero_add _).symm (Nat.zero_add _).symm ?_
    exact c_Ma_tells (by omega) hR hmm hrn (by omega) k
  | 2, _, he, hmm, k =>
    refine wp_callV (r := (R_7, T_7, 2)) (M' := m_Ma_tells) (as := [_, _]) (D' := D - 1) (C1 := 0) (C2 := C) (S1 := 0) (S2 := S) d rfl (by rw [hM]; exact w_917) w_918 w_922 he k_Ma_tells (Nat.le_of_ble_eq_true rfl) rfl hst (by omega) (Nat.zero_add _).symm (Nat.zero_add _).symm ?_
    exact c_Ma_tells (by omega) hR hmm hrn (by omega) k
  | 3, _, he, hmm, k =>
    refine wp_callU (r := (R_8, T_8, 2)) (x := ⟨"TubeChain$Man", "tells", "(I[I)I"⟩) (owner := "TubeChain$Man") (M' := m_Ti_tells) (as := [_, _]) (D' := D - 1) (C1 := 0) (C2 := C) (S1 := 0) (S2 := S) d rfl rfl (by rw [hM]; exact w_917) w_920 w_932 w_933 w_918 (px_in (px_t4 (List.mem_of_getElem? (i := 150) rfl)) rfl) ⟨by decide, by decide⟩ he k_Ti_tells (Nat.le_of_ble_eq_true rfl) rfl hst (by omega) (Nat.zero_add _).symm (Nat.zero_add _).symm ?_
    exact c_Ti_tells8 (by omega) hR hmm hrn (by omega) rfl k
  | 4, _, he, hmm, k =>
    refine wp_callV (r := (R_9, T_9, 2)) (M' := m_Ma_tells) (as := [_, _]) (D' := D - 1) (C1 := 0) (C2 := C) (S1 := 0) (S2 := S) d rfl (by rw [hM]; exact w_917) w_918 w_921 he k_Ma_tells (Nat.le_of_ble_eq_true rfl) rfl hst (by omega) (Nat.zero_add _).symm (Nat.zero_add _).symm ?_
    exact c_Ma_tells (by omega) hR hmm hrn (by omega) k
  | 5, _, he, hmm, k =>
    refine wp_callU (r := (R_10, T_10, 2)) (x := ⟨"TubeChain$Man", "tells", "(I[I)I"⟩) (owner := "TubeChain$Man") (M' := m_Sl_tells) (as := [_, _]) (D' := D - 1) (C1 := 0) (C2 := C) (S1 := 0) (S2 := S) d rfl rfl (by rw [hM]; exact w_917) w_920 w_923 w_924 w_918 (px_in (px_t4 (List.mem_of_getElem? (i := 150) rfl)) rfl) ⟨by decide, by decide⟩ he k_Sl_tells (Nat.le_of_ble_eq_true rfl) rfl hst (by omega) (Nat.zero_add _).symm (Nat.zero_add _).symm ?_
    exact c_Sl_tells (by omega) hR hmm hrn (by omega) rfl k
  | 6, _, he, hmm, k =>
    refine wp_callU (r := (R_11, T_11, 2)) (x := ⟨"TubeChain$Man", "tells", "(I[I)I"⟩) (owner := "TubeChain$Man") (M' := m_Ti_tells) (as := [_, _]) (D' := D - 1) (C1 := 0) (C2 := C) (S1 := 0) (S2 := S) d rfl rfl (by rw [hM]; exact w_917) w_920 w_941 w_933 w_918 (px_in (px_t4 (List.mem_of_getElem? (i := 150) rfl)) rfl) ⟨by decide, by decide⟩ he k_Ti_tells (Nat.le_of_ble_eq_true rfl) rfl hst (by omega) (Nat.zero_add _).symm (Nat.zero_add _).symm ?_
    exact c_Ti_tells11 (by omega) hR hmm hrn (by omega) rfl k
set_option maxRecDepth 4000 in
theorem c_TC_act {n : Nat} {kd vd : Nat → Int32} {ln : Nat → Nat} {cl : List sp_Cl} {m y x : Int32} {f : Nat → Int32} (hD : 14 ≤ D) (hR : tc_R mn sc MZ r) (hst : st_ok mn sc K 0 n B kd vd ln cl) (hB : B ≤ 20000) (h7 : K.1 0 7 = nI n) (hal : hall mn (K.2.2.1 0) n kd vd) (hf : ∀ i, i < 20 → K.2.1 5 6 (1 + i) = f i) (kn : (¬ (0 ≤ m ∧ m < nI n) ∨ (y ≠ 0 ∧ y ≠ 1 ∧ y ≠ 2)) → ∀ K2, rk K K2 → rn (K2.2.1 5 6) (0, f) → Q (some (.int 0)) (HT K2 MZ r)) (k0 : ∀ mm, mm < n → m = nI mm → ∀ {kq v0 : Nat}, (kd mm = nI kq ∧ vd mm = nI v0) → y = 0 → ∀ K2, rk K K2 → rn (K2.2.1 5 6) (sp_tho (nI kq) (nI v0) mm x (0, f)).2 → Q (some (.int (sp_tho (nI kq) (nI v0) mm x (0, f)).1)) (HT K2 MZ r)) (k1 : ∀ mm, mm < n → m = nI mm → ∀ {kq v0 : Nat}, (kd mm = nI kq ∧ vd mm = nI v0) → y = 1 → ∀ K2, rk K K2 → rn (K2.2.1 5 6) (sp_tak (nI kq) (nI v0) mm x (0, f)).2 → Q (some (.int (sp_tak (nI kq) (nI v0) mm x (0, f)).1)) (HT K2 MZ r)) (k2 : ∀ mm, mm < n → m = nI mm → ∀ {kq v0 : Nat}, (kd mm = nI kq ∧ vd mm = nI v0) → y = 2 → ∀ K2, rk K K2 → rn (K2.2.1 5 6) (sp_tel (nI kq) (nI v0) mm x (0, f)).2 → Q (some (.int (sp_tel (nI kq) (nI v0) mm x (0, f)).1)) (HT K2 MZ r)) : px_W G D 0 0 m_TC_act 0 (px_ent 4 [.ref 0, .int m, .int y, .int x]) [] (HT K MZ r) Q := by
  show px_W _ _ _ _ _ _ [some (.ref 0), some (.int m), some (.int y), some (.int x)] [] _ _
  refine wp_aload_n d_TC_act_0 rfl rfl rfl ?_
  refine gC_6 gf_TC_57_0 d_TC_act_1 ?_
  refine wp_iconst (v := (nI 0)) d_TC_act_4 rfl ?_
  refine wp_iconst (v := 0) d_TC_act_5 rfl ?_
  refine sA_56 d_TC_act_6 (vp_in_nI (n := 0) (by decide) (by decide)) ?_
  obtain ⟨K1, eK1⟩ : ∃ z, z = kB K 5 (va_up (K.2.1 5) 6 (upd (K.2.1 5 6) (nI 0).toNatClampNeg 0)) := ⟨_, rfl⟩
  rw [← eK1]
  have hk1 : rk K K1 := by rw [eK1]; exact rk.put K _
  have hr1 : ∀ f, (∀ i, i < 20 → K.2.1 5 6 (1 + i) = f i) → rn (K1.2.1 5 6) (0, f) := fun f hf => by
    rw [eK1]
    exact ⟨rfl, fun i hi => (show (if 1 + i = 0 then (0 : Int32) else K.2.1 5 6 (1 + i)) = f i from by rw [if_neg (by omega)]; exact hf i hi)⟩
  refine wp_aload_n d_TC_act_7 rfl rfl rfl ?_
  refine wp_iload_n d_TC_act_8 rfl rfl ?_
  refine wp_callV (r := (R_0, T_0, 11)) (M' := m_TC_isNoMan) (as := [_]) (D' := D - 1) (C1 := 0) (C2 := 0) (S1 := 0) (S2 := 0) d_TC_act_9 rfl w_407 w_409 w_0 tt_0 k_TC_isNoMan (Nat.le_of_ble_eq_true rfl) rfl (Nat.le_of_ble_eq_true rfl) (by omega) rfl rfl ?_
  refine c_TC_isNoMan (by omega) (by rw [(hk1.1.1 0 (by decide)).1]; exact h7) (fun hm => ?_) (fun hm => ?_)
  · skip
    refine wp_if_eq (t := 17) d_TC_act_12 (by decide) (fun c_12 => (absurd c_12 (by decide))) (fun c_12 => ?_)
    refine wp_iconst (v := 0) d_TC_act_15 rfl ?_
    refine wp_ireturn d_TC_act_16 rfl rfl ?_
    exact kn (Or.inl hm) K1 hk1 (hr1 f hf)
  · skip
    refine wp_if_eq (t := 17) d_TC_act_12 (by decide) (fun c_12 => ?_) (fun c_12 => (absurd c_12 (by decide)))
    obtain ⟨mm, hmn, rfl⟩ := (i_rng (by have := hst.1.1; omega)).mp hm
    have hn6 := hst.1.1
    obtain ⟨pm, kq, v0, hwm, hmm, hkd, hvd⟩ := hal mm hmn
    have hm0 : kd mm = nI kq ∧ vd mm = nI v0 := ⟨hkd, hvd⟩
    refine wp_iload_n d_TC_act_17 rfl rfl ?_
    refine wp_topi (fun y_18 e_18 => ?_)
    by_cases s_18_0 : y_18 = 0
    · rw [s_18_0]
      refine wp_tableIn (off := 26) (t := 44) d_TC_act_18 (by decide) (by decide) rfl (by decide) ?_
      refine wp_aload_n d_TC_act_44 rfl rfl rfl ?_
      refine gC_0 gf_TC_24_0 d_TC_act_45 ?_
      refine gK_0 (s := 0) (by decide) gf_TC_101_1 d_TC_act_48 ?_
      refine wp_iload_n d_TC_act_51 rfl rfl ?_
      refine lK_0 (s := 0) (by decide) d_TC_act_52 (vp_in_nI (by omega) (by decide)) ?_
      rw [nI_clamp (by omega), (hk1.1.1 0 (by decide)).2.2.1, hwm]
      show px_W _ _ _ _ _ _ _ (.ref pm :: _) _ _
      refine wp_iload_n d_TC_act_53 rfl rfl ?_
      refine wp_aload_n d_TC_act_54 rfl rfl rfl ?_
      refine gC_6 gf_TC_57_0 d_TC_act_55 ?_
      refine v_tosses_TC rfl d_TC_act_58 (Nat.le_of_ble_eq_true rfl) (by omega) hR hmm (hr1 f hf) (Nat.zero_le _) (fun K2 hk2 hr2 => ?_)
      refine wp_ireturn d_TC_act_61 rfl rfl ?_
      exact k0 mm hmn rfl hm0 (e_18.symm.trans s_18_0) K2 (hk1.tr hk2) hr2
    by_cases s_18_1 : y_18 = 1
    · rw [s_18_1]
      refine wp_tableIn (off := 44) (t := 62) d_TC_act_18 (by decide) (by decide) rfl (by decide) ?_
      refine wp_aload_n d_TC_act_62 rfl rfl rfl ?_
      refine gC_0 gf_TC_24_0 d_TC_act_63 ?_
      refine gK_0 (s := 0) (by decide) gf_TC_101_1 d_TC_act_66 ?_
      refine wp_iload_n d_TC_act_69 rfl rfl ?_
      refine lK_0 (s := 0) (by decide) d_TC_act_70 (vp_in_nI (by omega) (by decide)) ?_
      rw [nI_clamp (by omega), (hk1.1.1 0 (by decide)).2.2.1, hwm]
      show px_W _ _ _ _ _ _ _ (.ref pm :: _) _ _
      refine wp_iload_n d_TC_act_71 rfl rfl ?_
      refine wp_aload_n d_TC_act_72 rfl rfl rfl ?_
      refine gC_6 gf_TC_57_0 d_TC_act_73 ?_
      refine v_takes_TC rfl d_TC_act_76 (Nat.le_of_ble_eq_true rfl) (by omega) hR hmm (hr1 f hf) (Nat.zero_le _) (fun K2 hk2 hr2 => ?_)
      refine wp_ireturn d_TC_act_79 rfl rfl ?_
      exact k1 mm hmn rfl hm0 (e_18.symm.trans s_18_1) K2 (hk1.tr hk2) hr2
    by_cases s_18_2 : y_18 = 2
    · rw [s_18_2]
      refine wp_tableIn (off := 62) (t := 80) d_TC_act_18 (by decide) (by decide) rfl (by decide) ?_
      refine wp_aload_n d_TC_act_80 rfl rfl rfl ?_
      refine gC_0 gf_TC_24_0 d_TC_act_81 ?_
      refine gK_0 (s := 0) (by decide) gf_TC_101_1 d_TC_act_84 ?_
      refine wp_iload_n d_TC_act_87 rfl rfl ?_
      refine lK_0 (s := 0) (by decide) d_TC_act_88 (vp_in_nI (by omega) (by decide)) ?_
      rw [nI_clamp (by omega), (hk1.1.1 0 (by decide)).2.2.1, hwm]
      show px_W _ _ _ _ _ _ _ (.ref pm :: _) _ _
      refine wp_iload_n d_TC_act_89 rfl rfl ?_
      refine wp_aload_n d_TC_act_90 rfl rfl rfl ?_
      refine gC_6 gf_TC_57_0 d_TC_act_91 ?_
      refine v_tells_TC rfl d_TC_act_94 (Nat.le_of_ble_eq_true rfl) (by omega) hR hmm (hr1 f hf) (Nat.zero_le _) (fun K2 hk2 hr2 => ?_)
      refine wp_ireturn d_TC_act_97 rfl rfl ?_
      exact k2 mm hmn rfl hm0 (e_18.symm.trans s_18_2) K2 (hk1.tr hk2) hr2
    have n_18_0 : y_18.toInt ≠ 0 := lv_neT s_18_0 rfl
    have n_18_1 : y_18.toInt ≠ 1 := lv_neT s_18_1 rfl
    have n_18_2 : y_18.toInt ≠ 2 := lv_neT s_18_2 rfl
    refine wp_tableOut (t := 98) d_TC_act_18 (by omega) (by decide) ?_
    refine wp_iconst (v := 0) d_TC_act_98 rfl ?_
    refine wp_ireturn d_TC_act_99 rfl rfl ?_
    exact kn (Or.inr ⟨fun z => s_18_0 (e_18.trans z), fun z => s_18_1 (e_18.trans z), fun z => s_18_2 (e_18.trans z)⟩) K1 hk1 (hr1 f hf)
end TDM
