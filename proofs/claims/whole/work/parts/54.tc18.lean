def np1 (l : Nat → Nat) : Nat → Option Nat
  | 0 => none
  | i + 1 => if l (i + 1) < l i then np1 l i else some i
def np2 (l : Nat → Nat) (p : Nat) : Nat → Nat
  | 0 => 0
  | q + 1 => if p < q + 1 ∧ l (q + 1) < l p then np2 l p q else q + 1
def np3 : Nat → (Nat → Nat) → Nat → Nat → Nat → Nat
  | 0, l, _, _ => l
  | q + 1, l, a, c => if a < c then np3 q (sp_sw l a c) (a + 1) (c - 1) else l
def npx (n : Nat) (l : Nat → Nat) : Option (Nat → Nat) := match np1 l (n - 1) with
  | none => none
  | some p => some (np3 n (sp_sw l p (np2 l p (n - 1))) (p + 1) (n - 1))
def nprow (n k : Nat) : Nat → Nat := fun p => (sp_pm n k).getD p 0
def npchk (n k : Nat) : Bool := match npx n (nprow n k) with
  | none => decide (k + 1 = sp_fac n)
  | some l => decide (k + 1 < sp_fac n) && (List.range n).all (fun p => decide (l p = nprow n (k + 1) p))
theorem npchk_ok : ∀ n, n < 5 → ∀ k, k < 24 → k < sp_fac n → npchk n k = true := by decide +kernel
theorem nprow_0 : ∀ n, n < 5 → ∀ p, p < n → nprow n 0 p = p := by decide +kernel
theorem np1_b {l : Nat → Nat} : ∀ (i p : Nat), np1 l i = some p → p < i := by
  intro i
  induction i with
  | zero => intro p h; cases h
  | succ i ih =>
    intro p h
    rw [np1] at h
    split at h
    · have := ih p h; omega
    · cases h; omega
theorem np2_b {l : Nat → Nat} {p : Nat} : ∀ (q : Nat), np2 l p q ≤ q := by
  intro q
  induction q with
  | zero => exact Nat.le_refl 0
  | succ q ih =>
    rw [np2]
    split
    · omega
    · exact Nat.le_refl _
def ln_eq (n : Nat) (f : Nat → Int32) (l : Nat → Nat) : Prop := ∀ p, p < n → f p = nI (l p) ∧ l p < 6
theorem ln_eq.sw {n : Nat} {f : Nat → Int32} {l : Nat → Nat} (h : ln_eq n f l) {a c : Nat} (ha : a < n) (hc : c < n) : ln_eq n (sp_sw f a c) (sp_sw l a c) := by
  intro p hp
  unfold sp_sw
  by_cases e : p = c
  · rw [if_pos e, if_pos e]; exact h a ha
  · rw [if_neg e, if_neg e]
    by_cases e2 : p = a
    · rw [if_pos e2, if_pos e2]; exact h c hc
    · rw [if_neg e2, if_neg e2]; exact h p hp
section TDH
variable {G : px_G} {D : Nat} {K : tc_K} {MZ : px_H} {r : tc_r} {s : Nat} {j : Nat → Int32} {b : Nat → Nat → Int32} {w : Nat → Option Nat} {v : Nat} {Q : Option Value → px_H → Prop}
set_option maxRecDepth 4000 in
theorem l_Si_lineUpNext_91 {n : Nat} {v1 v2 : Int32} (hD : 1 ≤ D) (hs : s < 4) (hn : n ≤ 6) : ∀ (q : Nat) (f : Nat → Int32) (l : Nat → Nat) (a c : Nat), c ≤ a + q → c < n → a ≤ n → ln_eq n f l → (∀ f2, ln_eq n f2 (np3 q l a c) → Q (some (.int 1)) (HT (ks K s j (va_up b 4 f2) w v) MZ r)) → px_W G D 0 0 m_Si_lineUpNext 91 [some (.ref (tc_p s)), some (.int v1), some (.int v2), some (.int (nI a)), some (.int (nI c))] [] (HT (ks K s j (va_up b 4 f) w v) MZ r) Q := by
  intro q
  induction q with
  | zero =>
    intro f l a c hq hc han hf k
    refine wp_iload_n d_Si_lineUpNext_91 rfl rfl ?_
    refine wp_iload d_Si_lineUpNext_92 rfl ?_
    refine wp_icmp_ge (t := 113) d_Si_lineUpNext_94 (by decide) (fun c_94 => ?_) (fun c_94 => absurd (nI_le (by omega) (by omega)) c_94)
    refine wp_iconst (v := 1) d_Si_lineUpNext_113 rfl ?_
    refine wp_ireturn d_Si_lineUpNext_114 rfl rfl ?_
    exact k f hf
  | succ q ih =>
    intro f l a c hq hc han hf k
    refine wp_iload_n d_Si_lineUpNext_91 rfl rfl ?_
    refine wp_iload d_Si_lineUpNext_92 rfl ?_
    refine wp_icmp_ge (t := 113) d_Si_lineUpNext_94 (by decide) (fun c_94 => ?_) (fun c_94 => ?_)
    · skip
      refine wp_iconst (v := 1) d_Si_lineUpNext_113 rfl ?_
      refine wp_ireturn d_Si_lineUpNext_114 rfl rfl ?_
      exact k f (by rw [np3, if_neg (fun z => absurd c_94 (nI_ge z (by omega)))]; exact hf)
    · skip
      have hac : a < c := (nI_ltI (by omega) (by omega)).mp (Int32.not_le.mp c_94)
      refine wp_aload_n d_Si_lineUpNext_97 rfl rfl rfl ?_
      refine wp_iload_n d_Si_lineUpNext_98 rfl rfl ?_
      refine wp_iload d_Si_lineUpNext_99 rfl ?_
      refine wp_callV (r := (R_1, T_1, 15)) (M' := m_Si_exchange) (as := [_, _]) (D' := D - 1) (C1 := 0) (C2 := 0) (S1 := 0) (S2 := 0) d_Si_lineUpNext_101 rfl w_762 w_763 w_764 (ts_0 hs) k_Si_exchange (Nat.le_of_ble_eq_true rfl) rfl (Nat.le_of_ble_eq_true rfl) (by omega) rfl rfl ?_
      refine c_Si_exchange (by omega) hs (by omega) (by omega) ?_
      rw [va_tw, show va_up b 4 f 4 = f from if_pos rfl]
      refine wp_iinc (v := _ + 1) (ls' := [_, _, _, _, _]) d_Si_lineUpNext_104 (by decide) rfl rfl rfl ?_
      refine wp_iinc (v := _ + (-1)) (ls' := [_, _, _, _, _]) d_Si_lineUpNext_107 (by decide) rfl rfl rfl ?_
      refine wp_goto (t := 91) d_Si_lineUpNext_110 (by decide) ?_
      rw [show nI a + 1 = nI (a + 1) from nI_1 a, show nI c + -1 = nI (c - 1) from by rw [← Int32.sub_eq_add_neg, show c = (c - 1) + 1 from by omega]; exact nI_pred _]
      exact ih (sp_sw f a c) (sp_sw l a c) (a + 1) (c - 1) (by omega) (by omega) (by omega) (hf.sw (by omega) (by omega)) (fun f2 h2 => k f2 (by rw [np3, if_pos hac]; exact h2))
set_option maxRecDepth 4000 in
theorem l_Si_lineUpNext_73 {n p q : Nat} {l : Nat → Nat} (hD : 2 ≤ D) (hs : s < 4) (h8 : j 8 = nI n) (hn : n ≤ 4) (hp : p + 1 < n) (hq : q < n) (hf : ln_eq n (b 4) l) (k : ∀ f2, ln_eq n f2 (np3 n (sp_sw l p q) (p + 1) (n - 1)) → Q (some (.int 1)) (HT (ks K s j (va_up b 4 f2) w v) MZ r)) : px_W G D 0 0 m_Si_lineUpNext 73 [some (.ref (tc_p s)), some (.int (nI p)), some (.int (nI q)), none, none] [] (HT (ks K s j b w v) MZ r) Q := by
  refine wp_aload_n d_Si_lineUpNext_73 rfl rfl rfl ?_
  refine wp_iload_n d_Si_lineUpNext_74 rfl rfl ?_
  refine wp_iload_n d_Si_lineUpNext_75 rfl rfl ?_
  refine wp_callV (r := (R_1, T_1, 15)) (M' := m_Si_exchange) (as := [_, _]) (D' := D - 1) (C1 := 0) (C2 := 0) (S1 := 0) (S2 := 0) d_Si_lineUpNext_76 rfl w_762 w_763 w_764 (ts_0 hs) k_Si_exchange (Nat.le_of_ble_eq_true rfl) rfl (Nat.le_of_ble_eq_true rfl) (by omega) rfl rfl ?_
  refine c_Si_exchange (by omega) hs (by omega) (by omega) ?_
  refine wp_iload_n d_Si_lineUpNext_79 rfl rfl ?_
  refine wp_iconst (v := 1) d_Si_lineUpNext_80 rfl ?_
  refine wp_iadd d_Si_lineUpNext_81 ?_
  rw [show nI p + 1 = nI (p + 1) from nI_1 p]
  refine wp_istore_n (ls' := [_, _, _, _, _]) d_Si_lineUpNext_82 rfl (by decide) rfl ?_
  refine wp_aload_n d_Si_lineUpNext_83 rfl rfl rfl ?_
  refine gS_8 hs gf_Si_50_1 d_Si_lineUpNext_84 ?_
  refine wp_iconst (v := 1) d_Si_lineUpNext_87 rfl ?_
  refine wp_isub d_Si_lineUpNext_88 ?_
  rw [h8, show nI n - 1 = nI (n - 1) from by rw [show n = (n - 1) + 1 from by omega]; exact nI_pred _]
  refine wp_istore (ls' := [_, _, _, _, _]) d_Si_lineUpNext_89 (by decide) rfl ?_
  exact l_Si_lineUpNext_91 (by omega) hs (by omega) n (sp_sw (b 4) p q) (sp_sw l p q) (p + 1) (n - 1) (by omega) (by omega) (by omega) (hf.sw (by omega) (by omega)) k
set_option maxRecDepth 4000 in
theorem l_Si_lineUpNext_47 {n p : Nat} {l : Nat → Nat} (hD : 2 ≤ D) (hs : s < 4) (h8 : j 8 = nI n) (hn : n ≤ 4) (hp : p + 1 < n) (hf : ln_eq n (b 4) l) : ∀ (q : Nat), q < n → (∀ f2, ln_eq n f2 (np3 n (sp_sw l p (np2 l p q)) (p + 1) (n - 1)) → Q (some (.int 1)) (HT (ks K s j (va_up b 4 f2) w v) MZ r)) → px_W G D 0 0 m_Si_lineUpNext 47 [some (.ref (tc_p s)), some (.int (nI p)), some (.int (nI q)), none, none] [] (HT (ks K s j b w v) MZ r) Q := by
  intro q
  induction q with
  | zero =>
    intro hq k
    have k : (∀ f2, ln_eq n f2 (np3 n (sp_sw l p 0) (p + 1) (n - 1)) → Q (some (.int 1)) (HT (ks K s j (va_up b 4 f2) w v) MZ r)) := k
    refine wp_iload_n d_Si_lineUpNext_47 rfl rfl ?_
    refine wp_iload_n d_Si_lineUpNext_48 rfl rfl ?_
    refine wp_icmp_le (t := 73) d_Si_lineUpNext_49 (by decide) (fun c_49 => ?_) (fun c_49 => absurd (nI_le (a := 0) (by omega) (by omega)) c_49)
    exact l_Si_lineUpNext_73 hD hs h8 hn hp (by omega) hf k
  | succ q ih =>
    intro hq k
    have hfp := hf p (by omega)
    have hfq := hf (q + 1) (by omega)
    refine wp_iload_n d_Si_lineUpNext_47 rfl rfl ?_
    refine wp_iload_n d_Si_lineUpNext_48 rfl rfl ?_
    refine wp_icmp_le (t := 73) d_Si_lineUpNext_49 (by decide) (fun c_49 => ?_) (fun c_49 => ?_)
    · skip
      first
        | (have h2 : ¬ l (q + 1) < l p := fun z => absurd c_64 (nI_ge z (by omega))
           rw [np2, if_neg (fun z => h2 z.2)] at k
           exact l_Si_lineUpNext_73 hD hs h8 hn hp (by omega) hf k)
        | (have h1 : ¬ p < q + 1 := fun z => absurd c_49 (nI_ge z (by omega))
           rw [np2, if_neg (fun z => h1 z.1)] at k
           exact l_Si_lineUpNext_73 hD hs h8 hn hp (by omega) hf k)
    · skip
      refine wp_aload_n d_Si_lineUpNext_52 rfl rfl rfl ?_
      refine gS_4 hs gf_Si_27_1 d_Si_lineUpNext_53 ?_
      refine wp_iload_n d_Si_lineUpNext_56 rfl rfl ?_
      refine lS_4 hs d_Si_lineUpNext_57 (vp_in_nI (by omega) (by decide)) ?_
      rw [nI_clamp (by omega), hfq.1]
      refine wp_aload_n d_Si_lineUpNext_58 rfl rfl rfl ?_
      refine gS_4 hs gf_Si_27_1 d_Si_lineUpNext_59 ?_
      refine wp_iload_n d_Si_lineUpNext_62 rfl rfl ?_
      refine lS_4 hs d_Si_lineUpNext_63 (vp_in_nI (by omega) (by decide)) ?_
      rw [nI_clamp (by omega), hfp.1]
      refine wp_icmp_ge (t := 73) d_Si_lineUpNext_64 (by decide) (fun c_64 => ?_) (fun c_64 => ?_)
      · skip
        first
          | (have h2 : ¬ l (q + 1) < l p := fun z => absurd c_64 (nI_ge z (by omega))
             rw [np2, if_neg (fun z => h2 z.2)] at k
             exact l_Si_lineUpNext_73 hD hs h8 hn hp (by omega) hf k)
          | (have h1 : ¬ p < q + 1 := fun z => absurd c_49 (nI_ge z (by omega))
             rw [np2, if_neg (fun z => h1 z.1)] at k
             exact l_Si_lineUpNext_73 hD hs h8 hn hp (by omega) hf k)
      · skip
        refine wp_iinc (v := _ + (-1)) (ls' := [_, _, _, _, _]) d_Si_lineUpNext_67 (by decide) rfl rfl rfl ?_
        refine wp_goto (t := 47) d_Si_lineUpNext_70 (by decide) ?_
        rw [show nI (q + 1) + -1 = nI q from by rw [← Int32.sub_eq_add_neg]; exact nI_pred q]
        have h1 : p < q + 1 := (nI_ltI (by omega) (by omega)).mp (Int32.not_le.mp c_49)
        have h2 : l (q + 1) < l p := (nI_ltI (by omega) (by omega)).mp (Int32.not_le.mp c_64)
        rw [np2, if_pos ⟨h1, h2⟩] at k
        exact ih (by omega) k
set_option maxRecDepth 4000 in
theorem l_Si_lineUpNext_7 {n : Nat} {l : Nat → Nat} (hD : 2 ≤ D) (hs : s < 4) (h8 : j 8 = nI n) (hn : n ≤ 4) (hf : ln_eq n (b 4) l) : ∀ (i : Nat), i < n → (np1 l i = none → Q (some (.int 0)) (HT (ks K s j b w v) MZ r)) → (∀ p, np1 l i = some p → ∀ f2, ln_eq n f2 (np3 n (sp_sw l p (np2 l p (n - 1))) (p + 1) (n - 1)) → Q (some (.int 1)) (HT (ks K s j (va_up b 4 f2) w v) MZ r)) → px_W G D 0 0 m_Si_lineUpNext 7 [some (.ref (tc_p s)), some (.int (nI i - 1)), none, none, none] [] (HT (ks K s j b w v) MZ r) Q := by
  intro i
  induction i with
  | zero =>
    intro hi kn kS
    refine wp_iload_n d_Si_lineUpNext_7 rfl rfl ?_
    refine wp_if_lt (t := 34) d_Si_lineUpNext_8 (by decide) (fun c_8 => ?_) (fun c_8 => absurd (show (nI 0 - 1 : Int32) < 0 from by decide) c_8)
    refine wp_iload_n d_Si_lineUpNext_34 rfl rfl ?_
    refine wp_if_ge (t := 40) d_Si_lineUpNext_35 (by decide) (fun c_35 => absurd c_35 (by decide)) (fun c_35 => ?_)
    refine wp_iconst (v := 0) d_Si_lineUpNext_38 rfl ?_
    refine wp_ireturn d_Si_lineUpNext_39 rfl rfl ?_
    exact kn rfl
  | succ i ih =>
    intro hi kn kS
    rw [show nI (i + 1) - 1 = nI i from nI_pred i]
    refine wp_iload_n d_Si_lineUpNext_7 rfl rfl ?_
    refine wp_if_lt (t := 34) d_Si_lineUpNext_8 (by decide) (fun c_8 => absurd c_8 (nI_pos (by omega))) (fun c_8 => ?_)
    refine wp_aload_n d_Si_lineUpNext_11 rfl rfl rfl ?_
    refine gS_4 hs gf_Si_27_1 d_Si_lineUpNext_12 ?_
    refine wp_iload_n d_Si_lineUpNext_15 rfl rfl ?_
    refine lS_4 hs d_Si_lineUpNext_16 (vp_in_nI (by omega) (by decide)) ?_
    rw [nI_clamp (by omega), (hf i (by omega)).1]
    refine wp_aload_n d_Si_lineUpNext_17 rfl rfl rfl ?_
    refine gS_4 hs gf_Si_27_1 d_Si_lineUpNext_18 ?_
    refine wp_iload_n d_Si_lineUpNext_21 rfl rfl ?_
    refine wp_iconst (v := 1) d_Si_lineUpNext_22 rfl ?_
    refine wp_iadd d_Si_lineUpNext_23 ?_
    rw [show nI i + 1 = nI (i + 1) from nI_1 i]
    refine lS_4 hs d_Si_lineUpNext_24 (vp_in_nI (by omega) (by decide)) ?_
    rw [nI_clamp (by omega), (hf (i + 1) (by omega)).1]
    refine wp_icmp_le (t := 34) d_Si_lineUpNext_25 (by decide) (fun c_25 => ?_) (fun c_25 => ?_)
    · skip
      refine wp_iload_n d_Si_lineUpNext_34 rfl rfl ?_
      refine wp_if_ge (t := 40) d_Si_lineUpNext_35 (by decide) (fun c_35 => ?_) (fun c_35 => absurd (nI_pos' (by omega)) c_35)
      refine wp_aload_n d_Si_lineUpNext_40 rfl rfl rfl ?_
      refine gS_8 hs gf_Si_50_1 d_Si_lineUpNext_41 ?_
      refine wp_iconst (v := 1) d_Si_lineUpNext_44 rfl ?_
      refine wp_isub d_Si_lineUpNext_45 ?_
      rw [h8, show nI n - 1 = nI (n - 1) from by rw [show n = (n - 1) + 1 from by omega]; exact nI_pred _]
      refine wp_istore_n (ls' := [_, _, _, _, _]) d_Si_lineUpNext_46 rfl (by decide) rfl ?_
      have h1 : ¬ l (i + 1) < l i := fun z => absurd c_25 (nI_ge z (by have := (hf i (by omega)).2; omega))
      exact l_Si_lineUpNext_47 hD hs h8 hn (by omega) hf (n - 1) (by omega) (kS i (by rw [np1, if_neg h1]))
    · skip
      refine wp_iinc (v := _ + (-1)) (ls' := [_, _, _, _, _]) d_Si_lineUpNext_28 (by decide) rfl rfl rfl ?_
      refine wp_goto (t := 7) d_Si_lineUpNext_31 (by decide) ?_
      rw [show nI i + -1 = nI i - 1 from (Int32.sub_eq_add_neg (nI i) 1).symm]
      have h1 : l (i + 1) < l i := (nI_ltI (by have := (hf i (by omega)).2; have := (hf (i + 1) (by omega)).2; omega) (by have := (hf i (by omega)).2; omega)).mp (Int32.not_le.mp c_25)
      exact ih (by omega) (fun z => kn (by rw [np1, if_pos h1]; exact z)) (fun p z => kS p (by rw [np1, if_pos h1]; exact z))
set_option maxRecDepth 4000 in
theorem c_Si_lineUpNext {n : Nat} {l : Nat → Nat} (hD : 2 ≤ D) (hs : s < 4) (h8 : j 8 = nI n) (hn : n ≤ 4) (hf : ln_eq n (b 4) l) (kn : npx n l = none → Q (some (.int 0)) (HT (ks K s j b w v) MZ r)) (kS : ∀ l2, npx n l = some l2 → ∀ f2, ln_eq n f2 l2 → Q (some (.int 1)) (HT (ks K s j (va_up b 4 f2) w v) MZ r)) : px_W G D 0 0 m_Si_lineUpNext 0 (px_ent 5 [.ref (tc_p s)]) [] (HT (ks K s j b w v) MZ r) Q := by
  show px_W _ _ _ _ _ _ [some (.ref (tc_p s)), none, none, none, none] [] _ _
  refine wp_aload_n d_Si_lineUpNext_0 rfl rfl rfl ?_
  refine gS_8 hs gf_Si_50_1 d_Si_lineUpNext_1 ?_
  refine wp_iconst (v := 2) d_Si_lineUpNext_4 rfl ?_
  refine wp_isub d_Si_lineUpNext_5 ?_
  rw [h8]
  refine wp_istore_n (ls' := [_, _, _, _, _]) d_Si_lineUpNext_6 rfl (by decide) rfl ?_
  by_cases h0 : n = 0
  · subst h0
    refine wp_iload_n d_Si_lineUpNext_7 rfl rfl ?_
    refine wp_if_lt (t := 34) d_Si_lineUpNext_8 (by decide) (fun c_8 => ?_) (fun c_8 => absurd (show (nI 0 - 2 : Int32) < 0 from by decide) c_8)
    refine wp_iload_n d_Si_lineUpNext_34 rfl rfl ?_
    refine wp_if_ge (t := 40) d_Si_lineUpNext_35 (by decide) (fun c_35 => absurd c_35 (by decide)) (fun c_35 => ?_)
    refine wp_iconst (v := 0) d_Si_lineUpNext_38 rfl ?_
    refine wp_ireturn d_Si_lineUpNext_39 rfl rfl ?_
    exact kn rfl
  · rw [show nI n - 2 = nI (n - 1) - 1 from by rw [show n = (n - 1) + 1 from by omega, ← nI_1]; show nI (n - 1) + 1 - 2 = nI (n - 1 + 1 - 1) - 1; rw [Nat.add_sub_cancel, Int32.sub_eq_add_neg, Int32.sub_eq_add_neg, Int32.add_assoc]; rfl]
    exact l_Si_lineUpNext_7 hD hs h8 hn hf (n - 1) (by omega) (fun z => kn (by rw [npx, z])) (fun p z => kS _ (by rw [npx, z]))
end TDH
