theorem sp_ly_d {s : sp_St} {t0 b r : Int32} {j : Nat} : ∀ (q k : Nat) (z z' : sp_LS), z.1 = z'.1 → z.2.1 = z'.2.1 → z.2.2.1 = z'.2.2.1 → z.2.2.2.1 = z'.2.2.2.1 → z.2.2.2.2.1 = z'.2.2.2.2.1 → z.2.2.2.2.2.1 = z'.2.2.2.2.2.1 → (sp_ly s t0 b r j q k z).2.2.2.1 = (sp_ly s t0 b r j q k z').2.2.2.1 ∧ (sp_ly s t0 b r j q k z).2.2.2.2.1 = (sp_ly s t0 b r j q k z').2.2.2.2.1 ∧ (sp_ly s t0 b r j q k z).2.2.2.2.2.1 = (sp_ly s t0 b r j q k z').2.2.2.2.2.1 ∧ ∀ x, z.2.2.2.2.2.2 x = z'.2.2.2.2.2.2 x → (sp_ly s t0 b r j q k z).2.2.2.2.2.2 x = (sp_ly s t0 b r j q k z').2.2.2.2.2.2 x := by
  intro q
  induction q with
  | zero => intro k z z' h1 h2 h3 h4 h5 h6; exact ⟨h4, h5, h6, fun x hx => hx⟩
  | succ q ih =>
    intro k z z' h1 h2 h3 h4 h5 h6
    obtain ⟨a1, a2, a3, a4, a5, a6, a7⟩ := z
    obtain ⟨b1, b2, b3, b4, b5, b6, b7⟩ := z'
    simp only at h1 h2 h3 h4 h5 h6
    subst h1; subst h2; subst h3; subst h4; subst h5; subst h6
    show (sp_ly s t0 b r j q (k + 1) (sp_l1 s t0 b r j k (a1, a2, a3, a4, a5, a6, a7))).2.2.2.1 = (sp_ly s t0 b r j q (k + 1) (sp_l1 s t0 b r j k (a1, a2, a3, a4, a5, a6, b7))).2.2.2.1 ∧ (sp_ly s t0 b r j q (k + 1) (sp_l1 s t0 b r j k (a1, a2, a3, a4, a5, a6, a7))).2.2.2.2.1 = (sp_ly s t0 b r j q (k + 1) (sp_l1 s t0 b r j k (a1, a2, a3, a4, a5, a6, b7))).2.2.2.2.1 ∧ (sp_ly s t0 b r j q (k + 1) (sp_l1 s t0 b r j k (a1, a2, a3, a4, a5, a6, a7))).2.2.2.2.2.1 = (sp_ly s t0 b r j q (k + 1) (sp_l1 s t0 b r j k (a1, a2, a3, a4, a5, a6, b7))).2.2.2.2.2.1 ∧ ∀ x, a7 x = b7 x → (sp_ly s t0 b r j q (k + 1) (sp_l1 s t0 b r j k (a1, a2, a3, a4, a5, a6, a7))).2.2.2.2.2.2 x = (sp_ly s t0 b r j q (k + 1) (sp_l1 s t0 b r j k (a1, a2, a3, a4, a5, a6, b7))).2.2.2.2.2.2 x
    unfold sp_l1
    cases hr : (sp_throw s 2000000000 a1 a2 a3).1 with
    | none => exact ih (k + 1) _ _ rfl rfl rfl rfl rfl rfl
    | some m =>
      have h := ih (k + 1) (a1 + sp_bt b r j k, (sp_throw s 2000000000 a1 a2 a3).2.2.1, (sp_throw s 2000000000 a1 a2 a3).2.2.2, a4, a5, a6, upd a7 m (a7 m + 1)) (a1 + sp_bt b r j k, (sp_throw s 2000000000 a1 a2 a3).2.2.1, (sp_throw s 2000000000 a1 a2 a3).2.2.2, a4, a5, a6, upd b7 m (b7 m + 1)) rfl rfl rfl rfl rfl rfl
      refine ⟨h.1, h.2.1, h.2.2.1, fun x hx => h.2.2.2 x ?_⟩
      show (if x = m then a7 m + 1 else a7 x) = if x = m then b7 m + 1 else b7 x
      by_cases hxm : x = m
      · rw [if_pos hxm, if_pos hxm, ← hxm, hx]
      · rw [if_neg hxm, if_neg hxm]; exact hx
def sp_many (s : sp_St) (t0 : Int32) (held free : Nat → Int32) (n : Nat) (b r : Int32) (j : Nat) : Int32 := (sp_lay s t0 held free (fun _ => 0) n b r j).2.2.2.1
def sp_ups (s : sp_St) (t0 : Int32) (held free : Nat → Int32) (n : Nat) (b r : Int32) (j : Nat) : Int32 := (sp_lay s t0 held free (fun _ => 0) n b r j).2.2.2.2.1
def sp_lat (s : sp_St) (t0 : Int32) (held free : Nat → Int32) (n : Nat) (b r : Int32) (j : Nat) : Int32 := (sp_lay s t0 held free (fun _ => 0) n b r j).2.2.2.2.2.1
def sp_drp (s : sp_St) (t0 : Int32) (held free : Nat → Int32) (n : Nat) (b r : Int32) (j : Nat) : Nat → Int32 := (sp_lay s t0 held free (fun _ => 0) n b r j).2.2.2.2.2.2
/-- who lets most fall: q men to look at from m on -/
def sp_md (f : Nat → Int32) : Nat → Nat → Int32 → Int32
  | 0, _, w => w
  | q + 1, m, w => if 0 < f m ∧ (w < 0 ∨ f w.toNatClampNeg < f m) then sp_md f q (m + 1) (nI m) else sp_md f q (m + 1) w
/-- the least beat from b on, q to try -/
def sp_safe (g : Int32 → Int32) (n : Int32) : Nat → Nat → Int32
  | 0, _ => -5
  | q + 1, b => if g (nI b) = n then nI b else sp_safe g n q (b + 1)
/-- BEST: beat, how many, latest -/
def sp_best (g l : Int32 → Int32) : Nat → Nat → Int32 × Int32 × Int32 → Int32 × Int32 × Int32
  | 0, _, z => z
  | q + 1, b, z => if g (nI b) < z.2.1 ∨ (g (nI b) = z.2.1 ∧ z.2.2 ≤ l (nI b)) then sp_best g l q (b + 1) z else sp_best g l q (b + 1) (nI b, g (nI b), l (nI b))
/-- the least n from n on, q to try -/
def sp_from (p : Nat → Int32) : Nat → Nat → Int32
  | 0, _ => -5
  | q + 1, n => if 0 < p n then nI n else sp_from p q (n + 1)
/-- the greatest j, at most q -/
def sp_rst (g : Nat → Int32) (n : Int32) : Nat → Int32
  | 0 => -5
  | j + 1 => if g (j + 1) = n then nI (j + 1) else sp_rst g n j
def sp_sum (g : Int32 → Int32) : Nat → Nat → Int32 → Int32
  | 0, _, z => z
  | q + 1, b, z => sp_sum g q (b + 1) (z + g (nI b))
/-- LOOKED: tubes told up or not -/
def sp_lk (ups : Int32) (tb up : Nat → Int32) : Nat → Nat → Int32
  | 0, _ => -5
  | q + 1, k => if bI (decide ((ups >>> (tb k &&& 31)) &&& 1 = 1)) = up k then sp_lk ups tb up q (k + 1) else nI k
def sp_dn (tb : Nat → Int32) : Nat → Nat → Int32 → Int32
  | 0, _, z => z
  | q + 1, k, z => sp_dn tb q (k + 1) (z ||| (1 <<< (tb k &&& 31)))
def sp_who (g : Nat → Int32) (dn : Int32) : Nat → Nat → Int32 → Int32
  | 0, _, z => z
  | q + 1, m, z => sp_who g dn q (m + 1) (z ||| (if g m ^^^ dn = 1048575 then 1 <<< (nI m &&& 31) else 0))
def sp_good (g : Nat → Int32) (n : Int32) : Nat → Nat → Int32 → Int32
  | 0, _, z => z
  | q + 1, m, z => sp_good g n q (m + 1) (z + (if g m = n then 1 else 0))
def mo_hb (A : Nat → Nat → Int32) : Prop := ∀ m, m < 6 → ∃ hh, hh ≤ 9999 ∧ A 7 m = nI hh
theorem mo_hb.h {A : Nat → Nat → Int32} (h : mo_hb A) : mo_h A := fun m hm => by
  obtain ⟨hh, h1, h2⟩ := h m hm
  exact ⟨hh, by omega, h2⟩
theorem mo_h.ms {SI SA : List Nat} {I I' : Nat → Int32} {A A' : Nat → Nat → Int32} (h : mo_h A) (hm : ms SI SA I I' A A') (h7 : 7 ∉ SA) : mo_h A' := by
  intro m hm6
  rw [hm.2 7 h7]
  exact h m hm6
theorem mo_hb.ms {SI SA : List Nat} {I I' : Nat → Int32} {A A' : Nat → Nat → Int32} (h : mo_hb A) (hm : ms SI SA I I' A A') (h7 : 7 ∉ SA) : mo_hb A' := by
  intro m hm6
  rw [hm.2 7 h7]
  exact h m hm6
def up40 (f : Nat → Int32) (m : Nat) : Nat → Int32 := upd f m (f m + 40)
theorem mo_hb.up {A : Nat → Nat → Int32} {m : Nat} (h : mo_hb A) : mo_h (va_up A 7 (up40 (A 7) m)) := by
  intro j hj
  obtain ⟨hh, h1, h2⟩ := h j hj
  show ∃ hh, hh < 2 ^ 31 ∧ (if j = m then A 7 m + 40 else A 7 j) = nI hh
  by_cases e : j = m
  · rw [if_pos e, ← e, h2]
    exact ⟨hh + 40, by omega, nI_add hh 40⟩
  · rw [if_neg e]
    exact ⟨hh, by omega, h2⟩
theorem up40_b {f : Nat → Int32} {m : Nat} : upd (up40 f m) m (up40 f m m - 40) = f := by
  funext j
  show (if j = m then (if m = m then f m + 40 else f m) - 40 else if j = m then f m + 40 else f j) = f j
  by_cases e : j = m
  · rw [if_pos e, if_pos rfl, Int32.add_sub_cancel, e]
  · rw [if_neg e, if_neg e]
theorem sp_n30 {x M : Int32} {N : Nat} (hM : M.toInt = N) (h : 0 ≤ x ∧ x ≤ M) : ∃ j, j ≤ N ∧ x = nI j := nI_of2 hM (Int32.not_lt.mpr h.1) h.2
theorem sp_n1 {x M : Int32} {N : Nat} (hM : M.toInt = N) (h : 1 ≤ x ∧ x ≤ M) : ∃ j, j ≤ N ∧ x = nI j := nI_of2 hM (Int32.not_lt.mpr (by
  have h1 := Int32.le_iff_toInt_le.mp h.1
  rw [Int32.le_iff_toInt_le]
  have e1 : (1 : Int32).toInt = 1 := rfl
  have e0 : (0 : Int32).toInt = 0 := rfl
  omega)) h.2
section MOC
variable {G : px_G} {D : Nat} {X E : px_H} {I : Nat → Int32} {A : Nat → Nat → Int32} {L : Nat → Nat → Int64} {Q : Option Value → px_H → Prop}
theorem c_Mo_lay2 {n b : Nat} {ln : Nat → Nat} {cl : List sp_Cl} {bt r : Int32} {nn jj : Nat} (hD : 5 ≤ D) (hw : mo_w I A n ln b cl) (hh : mo_h A) (e32 : I 32 = 9999) (hn30 : nn ≤ 30) (hj : jj ≤ 60) (k : ∀ (I' : Nat → Int32) (A' : Nat → Nat → Int32), ms [29, 30, 31, 33, 36, 37, 38] [28, 34, 35, 39] I I' A A' → I' 36 = (sp_many (A 5, A 6, A 9, ln, n, cl) (I 2) (A 7) (A 8) (nn) (bt) (r) (jj)) → I' 37 = (sp_ups (A 5, A 6, A 9, ln, n, cl) (I 2) (A 7) (A 8) (nn) (bt) (r) (jj)) → I' 38 = (sp_lat (A 5, A 6, A 9, ln, n, cl) (I 2) (A 7) (A 8) (nn) (bt) (r) (jj)) → (∀ x, x < 6 → A' 39 x = (sp_drp (A 5, A 6, A 9, ln, n, cl) (I 2) (A 7) (A 8) (nn) (bt) (r) (jj)) x) → Q none (HM X I' A' L E)) : px_W G D 0 0 m_Mo_layTubes 0 (px_ent 6 [.ref X.length, .int (nI nn), .int bt, .int (nI jj), .int r]) [] (HM X I A L E) Q := by
  refine c_Mo_layTubes hD hw hh e32 hn30 hj (fun I1 A1 hm h36 h37 h38 h39 => ?_)
  have h := sp_ly_d (s := (A 5, A 6, A 9, ln, n, cl)) (t0 := I 2) (b := bt) (r := r) (j := jj) nn 0 (I 2, A 7, A 8, 0, 0, 0, sp_cp (fun _ => 0) (A 39) 6) (I 2, A 7, A 8, 0, 0, 0, fun _ => 0) rfl rfl rfl rfl rfl rfl
  exact k I1 A1 hm (h36.trans h.1) (h37.trans h.2.1) (h38.trans h.2.2.1) (fun x hx => (congrFun h39 x).trans (h.2.2.2 x (if_pos hx)))
set_option maxRecDepth 4000 in
theorem c_Mo_upBy {n b : Nat} {ln : Nat → Nat} {cl : List sp_Cl} {bt : Int32} {nn : Nat} (hD : 6 ≤ D) (hw : mo_w I A n ln b cl) (hh : mo_h A) (e32 : I 32 = 9999) (hn30 : nn ≤ 30) (k : ∀ (I' : Nat → Int32) (A' : Nat → Nat → Int32), ms [29, 30, 31, 33, 36, 37, 38] [28, 34, 35, 39] I I' A A' → I' 37 = (sp_ups (A 5, A 6, A 9, ln, n, cl) (I 2) (A 7) (A 8) (nn) (bt) (0) (0)) → I' 38 = (sp_lat (A 5, A 6, A 9, ln, n, cl) (I 2) (A 7) (A 8) (nn) (bt) (0) (0)) → (∀ x, x < 6 → A' 39 x = (sp_drp (A 5, A 6, A 9, ln, n, cl) (I 2) (A 7) (A 8) (nn) (bt) (0) (0)) x) → Q (some (.int (sp_many (A 5, A 6, A 9, ln, n, cl) (I 2) (A 7) (A 8) (nn) (bt) (0) (0)))) (HM X I' A' L E)) : px_W G D 0 0 m_Mo_upBy 0 (px_ent 3 [.ref X.length, .int (nI nn), .int bt]) [] (HM X I A L E) Q := by
  show px_W _ _ _ _ _ _ [some (.ref X.length), some (.int (nI nn)), some (.int bt)] [] _ _
  refine wp_aload_n d_Mo_upBy_0 rfl rfl rfl ?_
  refine wp_iload_n d_Mo_upBy_1 rfl rfl ?_
  refine wp_iload_n d_Mo_upBy_2 rfl rfl ?_
  refine wp_iconst (v := 0) d_Mo_upBy_3 rfl ?_
  refine wp_iconst (v := 0) d_Mo_upBy_4 rfl ?_
  refine wp_callV (r := (R_12, T_12, 70)) (M' := m_Mo_layTubes) (as := [_, _, _, _]) (D' := D - 1) (C1 := 0) (C2 := 0) (S1 := 0) (S2 := 0) d_Mo_upBy_5 rfl w_1382 w_1384 w_48 hm_0 k_Mo_layTubes (Nat.le_of_ble_eq_true rfl) rfl (Nat.le_of_ble_eq_true rfl) (by omega) rfl rfl ?_
  refine c_Mo_lay2 (by omega) (nn := nn) (jj := 0) hw hh e32 hn30 (by decide) (fun I1 A1 hm1 h36 h37 h38 h39 => ?_)
  refine wp_aload_n d_Mo_upBy_8 rfl rfl rfl ?_
  refine gM_36 rfl d_Mo_upBy_9 ?_
  refine wp_ireturn d_Mo_upBy_12 rfl rfl ?_
  rw [h36]
  exact k I1 A1 hm1 h37 h38 h39
set_option maxRecDepth 4000 in
theorem l_Mo_mostDrops_5 {n : Nat} (hn : I 0 = nI n) (hn6 : n ≤ 6) : ∀ (q m : Nat) (w : Int32), m + q = n → (w < 0 ∨ vp_in w 6) → Q (some (.int (sp_md (A 39) q m w))) (HM X I A L E) → px_W G D 0 0 m_Mo_mostDrops 5 [some (.ref X.length), some (.int w), some (.int (nI m))] [] (HM X I A L E) Q := by
  intro q
  induction q with
  | zero =>
    intro m w hm hw hq
    refine wp_iload_n d_Mo_mostDrops_5 rfl rfl ?_
    refine wp_aload_n d_Mo_mostDrops_6 rfl rfl rfl ?_
    refine gM_0 rfl d_Mo_mostDrops_7 ?_
    refine wp_icmp_ge (t := 49) d_Mo_mostDrops_10 (by decide) (fun c_10 => ?_) (fun c_10 => absurd (by rw [hn]; exact nI_le (by omega) (by omega)) c_10)
    refine wp_iload_n d_Mo_mostDrops_49 rfl rfl ?_
    refine wp_ireturn d_Mo_mostDrops_50 rfl rfl ?_
    exact hq
  | succ q ih =>
    intro m w hm hw hq
    have hst : sp_md (A 39) (q + 1) m w = if 0 < A 39 m ∧ (w < 0 ∨ A 39 w.toNatClampNeg < A 39 m) then sp_md (A 39) q (m + 1) (nI m) else sp_md (A 39) q (m + 1) w := rfl
    rw [hst] at hq
    have ecm : (nI m).toNatClampNeg = m := nI_clamp (by omega)
    refine wp_iload_n d_Mo_mostDrops_5 rfl rfl ?_
    refine wp_aload_n d_Mo_mostDrops_6 rfl rfl rfl ?_
    refine gM_0 rfl d_Mo_mostDrops_7 ?_
    refine wp_icmp_ge (t := 49) d_Mo_mostDrops_10 (by decide) (fun c_10 => absurd c_10 (by rw [hn]; exact nI_ge (by omega) (by omega))) (fun c_10 => ?_)
    refine wp_aload_n d_Mo_mostDrops_13 rfl rfl rfl ?_
    refine gM_39 rfl d_Mo_mostDrops_14 ?_
    refine wp_iload_n d_Mo_mostDrops_17 rfl rfl ?_
    refine lM_39 d_Mo_mostDrops_18 (vp_in_nI (by omega) (by decide)) ?_
    rw [ecm]
    refine wp_if_le (t := 43) d_Mo_mostDrops_19 (by decide) (fun c_19 => ?_) (fun c_19 => ?_)
    · skip
      refine wp_iinc (v := _ + 1) (ls' := [_, _, _]) d_Mo_mostDrops_43 (by decide) rfl rfl rfl ?_
      refine wp_goto (t := 5) d_Mo_mostDrops_46 (by decide) ?_
      rw [show nI m + 1 = nI (m + 1) from nI_1 m]
      first
        | (have hc : 0 < A 39 m ∧ (w < 0 ∨ A 39 w.toNatClampNeg < A 39 m) := And.intro (Int32.not_le.mp c_19) (Or.inl c_23)
           rw [if_pos hc] at hq; exact ih (m + 1) (nI m) (by omega) (Or.inr (vp_in_nI (by omega) (by decide))) hq)
        | (have hc : 0 < A 39 m ∧ (w < 0 ∨ A 39 w.toNatClampNeg < A 39 m) := And.intro (Int32.not_le.mp c_19) (Or.inr (Int32.not_le.mp c_38))
           rw [if_pos hc] at hq; exact ih (m + 1) (nI m) (by omega) (Or.inr (vp_in_nI (by omega) (by decide))) hq)
        | (have hc : ¬ (0 < A 39 m ∧ (w < 0 ∨ A 39 w.toNatClampNeg < A 39 m)) := fun z => absurd z.1 (Int32.not_lt.mpr c_19)
           rw [if_neg hc] at hq; exact ih (m + 1) w (by omega) hw hq)
        | (have hc : ¬ (0 < A 39 m ∧ (w < 0 ∨ A 39 w.toNatClampNeg < A 39 m)) := fun z => z.2.elim c_23 (fun z => absurd z (Int32.not_lt.mpr c_38))
           rw [if_neg hc] at hq; exact ih (m + 1) w (by omega) hw hq)
    · skip
      refine wp_iload_n d_Mo_mostDrops_22 rfl rfl ?_
      refine wp_if_lt (t := 41) d_Mo_mostDrops_23 (by decide) (fun c_23 => ?_) (fun c_23 => ?_)
      · skip
        refine wp_iload_n d_Mo_mostDrops_41 rfl rfl ?_
        refine wp_istore_n (ls' := [_, _, _]) d_Mo_mostDrops_42 rfl (by decide) rfl ?_
        refine wp_iinc (v := _ + 1) (ls' := [_, _, _]) d_Mo_mostDrops_43 (by decide) rfl rfl rfl ?_
        refine wp_goto (t := 5) d_Mo_mostDrops_46 (by decide) ?_
        rw [show nI m + 1 = nI (m + 1) from nI_1 m]
        first
          | (have hc : 0 < A 39 m ∧ (w < 0 ∨ A 39 w.toNatClampNeg < A 39 m) := And.intro (Int32.not_le.mp c_19) (Or.inl c_23)
             rw [if_pos hc] at hq; exact ih (m + 1) (nI m) (by omega) (Or.inr (vp_in_nI (by omega) (by decide))) hq)
          | (have hc : 0 < A 39 m ∧ (w < 0 ∨ A 39 w.toNatClampNeg < A 39 m) := And.intro (Int32.not_le.mp c_19) (Or.inr (Int32.not_le.mp c_38))
             rw [if_pos hc] at hq; exact ih (m + 1) (nI m) (by omega) (Or.inr (vp_in_nI (by omega) (by decide))) hq)
          | (have hc : ¬ (0 < A 39 m ∧ (w < 0 ∨ A 39 w.toNatClampNeg < A 39 m)) := fun z => absurd z.1 (Int32.not_lt.mpr c_19)
             rw [if_neg hc] at hq; exact ih (m + 1) w (by omega) hw hq)
          | (have hc : ¬ (0 < A 39 m ∧ (w < 0 ∨ A 39 w.toNatClampNeg < A 39 m)) := fun z => z.2.elim c_23 (fun z => absurd z (Int32.not_lt.mpr c_38))
             rw [if_neg hc] at hq; exact ih (m + 1) w (by omega) hw hq)
      · skip
        refine wp_aload_n d_Mo_mostDrops_26 rfl rfl rfl ?_
        refine gM_39 rfl d_Mo_mostDrops_27 ?_
        refine wp_iload_n d_Mo_mostDrops_30 rfl rfl ?_
        refine lM_39 d_Mo_mostDrops_31 (vp_in_nI (by omega) (by decide)) ?_
        rw [ecm]
        refine wp_aload_n d_Mo_mostDrops_32 rfl rfl rfl ?_
        refine gM_39 rfl d_Mo_mostDrops_33 ?_
        refine wp_iload_n d_Mo_mostDrops_36 rfl rfl ?_
        refine lM_39 d_Mo_mostDrops_37 (hw.resolve_left c_23) ?_
        refine wp_icmp_le (t := 43) d_Mo_mostDrops_38 (by decide) (fun c_38 => ?_) (fun c_38 => ?_)
        · skip
          refine wp_iinc (v := _ + 1) (ls' := [_, _, _]) d_Mo_mostDrops_43 (by decide) rfl rfl rfl ?_
          refine wp_goto (t := 5) d_Mo_mostDrops_46 (by decide) ?_
          rw [show nI m + 1 = nI (m + 1) from nI_1 m]
          first
            | (have hc : 0 < A 39 m ∧ (w < 0 ∨ A 39 w.toNatClampNeg < A 39 m) := And.intro (Int32.not_le.mp c_19) (Or.inl c_23)
               rw [if_pos hc] at hq; exact ih (m + 1) (nI m) (by omega) (Or.inr (vp_in_nI (by omega) (by decide))) hq)
            | (have hc : 0 < A 39 m ∧ (w < 0 ∨ A 39 w.toNatClampNeg < A 39 m) := And.intro (Int32.not_le.mp c_19) (Or.inr (Int32.not_le.mp c_38))
               rw [if_pos hc] at hq; exact ih (m + 1) (nI m) (by omega) (Or.inr (vp_in_nI (by omega) (by decide))) hq)
            | (have hc : ¬ (0 < A 39 m ∧ (w < 0 ∨ A 39 w.toNatClampNeg < A 39 m)) := fun z => absurd z.1 (Int32.not_lt.mpr c_19)
               rw [if_neg hc] at hq; exact ih (m + 1) w (by omega) hw hq)
            | (have hc : ¬ (0 < A 39 m ∧ (w < 0 ∨ A 39 w.toNatClampNeg < A 39 m)) := fun z => z.2.elim c_23 (fun z => absurd z (Int32.not_lt.mpr c_38))
               rw [if_neg hc] at hq; exact ih (m + 1) w (by omega) hw hq)
        · skip
          refine wp_iload_n d_Mo_mostDrops_41 rfl rfl ?_
          refine wp_istore_n (ls' := [_, _, _]) d_Mo_mostDrops_42 rfl (by decide) rfl ?_
          refine wp_iinc (v := _ + 1) (ls' := [_, _, _]) d_Mo_mostDrops_43 (by decide) rfl rfl rfl ?_
          refine wp_goto (t := 5) d_Mo_mostDrops_46 (by decide) ?_
          rw [show nI m + 1 = nI (m + 1) from nI_1 m]
          first
            | (have hc : 0 < A 39 m ∧ (w < 0 ∨ A 39 w.toNatClampNeg < A 39 m) := And.intro (Int32.not_le.mp c_19) (Or.inl c_23)
               rw [if_pos hc] at hq; exact ih (m + 1) (nI m) (by omega) (Or.inr (vp_in_nI (by omega) (by decide))) hq)
            | (have hc : 0 < A 39 m ∧ (w < 0 ∨ A 39 w.toNatClampNeg < A 39 m) := And.intro (Int32.not_le.mp c_19) (Or.inr (Int32.not_le.mp c_38))
               rw [if_pos hc] at hq; exact ih (m + 1) (nI m) (by omega) (Or.inr (vp_in_nI (by omega) (by decide))) hq)
            | (have hc : ¬ (0 < A 39 m ∧ (w < 0 ∨ A 39 w.toNatClampNeg < A 39 m)) := fun z => absurd z.1 (Int32.not_lt.mpr c_19)
               rw [if_neg hc] at hq; exact ih (m + 1) w (by omega) hw hq)
            | (have hc : ¬ (0 < A 39 m ∧ (w < 0 ∨ A 39 w.toNatClampNeg < A 39 m)) := fun z => z.2.elim c_23 (fun z => absurd z (Int32.not_lt.mpr c_38))
               rw [if_neg hc] at hq; exact ih (m + 1) w (by omega) hw hq)
set_option maxRecDepth 4000 in
theorem c_Mo_mostDrops {n : Nat} (hD : 0 ≤ D) (hn : I 0 = nI n) (hn6 : n ≤ 6) (k : Q (some (.int (sp_md (A 39) n 0 (-5)))) (HM X I A L E)) : px_W G D 0 0 m_Mo_mostDrops 0 (px_ent 3 [.ref X.length]) [] (HM X I A L E) Q := by
  show px_W _ _ _ _ _ _ [some (.ref X.length), none, none] [] _ _
  refine wp_bipush (v := (-5)) d_Mo_mostDrops_0 (by decide) ?_
  refine wp_istore_n (ls' := [_, _, _]) d_Mo_mostDrops_2 rfl (by decide) rfl ?_
  refine wp_iconst (v := 0) d_Mo_mostDrops_3 rfl ?_
  refine wp_istore_n (ls' := [_, _, _]) d_Mo_mostDrops_4 rfl (by decide) rfl ?_
  exact l_Mo_mostDrops_5 hn hn6 n 0 (-5) (by omega) (Or.inl (by decide)) k
theorem sp_md_in {f : Nat → Int32} : ∀ (q m : Nat) (w : Int32), m + q ≤ 6 → (w < 0 ∨ vp_in w 6) → (sp_md f q m w < 0 ∨ vp_in (sp_md f q m w) 6) := by
  intro q
  induction q with
  | zero => intro m w _ h; exact h
  | succ q ih =>
    intro m w hm h
    show (if 0 < f m ∧ (w < 0 ∨ f w.toNatClampNeg < f m) then sp_md f q (m + 1) (nI m) else sp_md f q (m + 1) w) < 0 ∨ vp_in (if 0 < f m ∧ (w < 0 ∨ f w.toNatClampNeg < f m) then sp_md f q (m + 1) (nI m) else sp_md f q (m + 1) w) 6
    split
    · exact ih (m + 1) _ (by omega) (Or.inr (vp_in_nI (by omega) (by decide)))
    · exact ih (m + 1) _ (by omega) h
theorem sp_md_cg {f g : Nat → Int32} (hfg : ∀ x, x < 6 → f x = g x) : ∀ (q m : Nat) (w : Int32), m + q ≤ 6 → (w < 0 ∨ vp_in w 6) → sp_md f q m w = sp_md g q m w := by
  intro q
  induction q with
  | zero => intro m w _ _; rfl
  | succ q ih =>
    intro m w hm h
    show (if 0 < f m ∧ (w < 0 ∨ f w.toNatClampNeg < f m) then sp_md f q (m + 1) (nI m) else sp_md f q (m + 1) w) = if 0 < g m ∧ (w < 0 ∨ g w.toNatClampNeg < g m) then sp_md g q (m + 1) (nI m) else sp_md g q (m + 1) w
    rw [ih (m + 1) _ (by omega) (Or.inr (vp_in_nI (by omega) (by decide))), ih (m + 1) _ (by omega) h, hfg m (by omega)]
    rcases h with h | h
    · simp only [h, true_or]
    · rw [hfg w.toNatClampNeg (Nat.not_le.mp fun q => h (Or.inr q))]
set_option maxRecDepth 4000 in
theorem c_Mo_on {n b : Nat} {ln : Nat → Nat} {cl : List sp_Cl} {x bt y : Int32} (hD : 6 ≤ D) (hw : mo_w I A n ln b cl) (hh : mo_h A) (e32 : I 32 = 9999) (hn0 : I 0 = nI n) (kn : ¬ (0 ≤ y ∧ y ≤ 3) → Q (some (.int (-1))) (HM X I A L E)) (kb : (0 ≤ y ∧ y ≤ 3) → ¬ ((0 ≤ x ∧ x ≤ 30) ∧ (1 ≤ bt ∧ bt ≤ 99)) → Q (some (.int (-2))) (HM X I A L E)) (kk : (0 ≤ y ∧ y ≤ 3) → ((0 ≤ x ∧ x ≤ 30) ∧ (1 ≤ bt ∧ bt ≤ 99)) → ∀ nn, nn ≤ 30 → x = nI nn → ∀ (I' : Nat → Int32) (A' : Nat → Nat → Int32), ms [29, 30, 31, 33, 36, 37, 38] [28, 34, 35, 39] I I' A A' → Q (some (.int (if y = 0 then (sp_many (A 5, A 6, A 9, ln, n, cl) (I 2) (A 7) (A 8) (nn) (bt) (0) (0)) else if y = 1 then (sp_lat (A 5, A 6, A 9, ln, n, cl) (I 2) (A 7) (A 8) (nn) (bt) (0) (0)) else if y = 2 then (sp_md (sp_drp (A 5, A 6, A 9, ln, n, cl) (I 2) (A 7) (A 8) (nn) (bt) (0) (0)) n 0 (-5)) else if (sp_md (sp_drp (A 5, A 6, A 9, ln, n, cl) (I 2) (A 7) (A 8) (nn) (bt) (0) (0)) n 0 (-5)) < 0 then 0 else (sp_drp (A 5, A 6, A 9, ln, n, cl) (I 2) (A 7) (A 8) (nn) (bt) (0) (0)) (sp_md (sp_drp (A 5, A 6, A 9, ln, n, cl) (I 2) (A 7) (A 8) (nn) (bt) (0) (0)) n 0 (-5)).toNatClampNeg))) (HM X I' A' L E)) : px_W G D 0 0 m_Mo_on 0 (px_ent 5 [.ref X.length, .int x, .int bt, .int y]) [] (HM X I A L E) Q := by
  show px_W _ _ _ _ _ _ [some (.ref X.length), some (.int x), some (.int bt), some (.int y), none] [] _ _
  refine wp_aload_n d_Mo_on_0 rfl rfl rfl ?_
  refine wp_iload_n d_Mo_on_1 rfl rfl ?_
  refine wp_iconst (v := 0) d_Mo_on_2 rfl ?_
  refine wp_iconst (v := 3) d_Mo_on_3 rfl ?_
  refine wp_callV (r := (R_12, T_12, 70)) (M' := m_Mo_in) (as := [_, _, _]) (D' := D - 1) (C1 := 0) (C2 := 0) (S1 := 0) (S2 := 0) d_Mo_on_4 rfl w_1209 w_1211 w_15 hm_0 k_Mo_in (Nat.le_of_ble_eq_true rfl) rfl (Nat.le_of_ble_eq_true rfl) (by omega) rfl rfl ?_
  refine c_Mo_in (by omega)  (fun c_4 => ?_) (fun c_4 => ?_)
  · skip
    refine wp_if_ne (t := 12) d_Mo_on_7 (by decide) (fun c_7 => ?_) (fun c_7 => (absurd c_7 (by decide)))
    refine wp_aload_n d_Mo_on_12 rfl rfl rfl ?_
    refine wp_iload_n d_Mo_on_13 rfl rfl ?_
    refine wp_iconst (v := 0) d_Mo_on_14 rfl ?_
    refine wp_bipush (v := 30) d_Mo_on_15 (by decide) ?_
    refine wp_callV (r := (R_12, T_12, 70)) (M' := m_Mo_in) (as := [_, _, _]) (D' := D - 1) (C1 := 0) (C2 := 0) (S1 := 0) (S2 := 0) d_Mo_on_17 rfl w_1209 w_1211 w_15 hm_0 k_Mo_in (Nat.le_of_ble_eq_true rfl) rfl (Nat.le_of_ble_eq_true rfl) (by omega) rfl rfl ?_
    refine c_Mo_in (by omega)  (fun c_17 => ?_) (fun c_17 => ?_)
    · skip
      refine wp_if_eq (t := 31) d_Mo_on_20 (by decide) (fun c_20 => (absurd c_20 (by decide))) (fun c_20 => ?_)
      refine wp_aload_n d_Mo_on_23 rfl rfl rfl ?_
      refine wp_iload_n d_Mo_on_24 rfl rfl ?_
      refine wp_callV (r := (R_12, T_12, 70)) (M' := m_Mo_isBeat) (as := [_]) (D' := D - 1) (C1 := 0) (C2 := 0) (S1 := 0) (S2 := 0) d_Mo_on_25 rfl w_1361 w_1363 w_45 hm_0 k_Mo_isBeat (Nat.le_of_ble_eq_true rfl) rfl (Nat.le_of_ble_eq_true rfl) (by omega) rfl rfl ?_
      refine c_Mo_isBeat (by omega)  (fun c_25 => ?_) (fun c_25 => ?_)
      · skip
        refine wp_if_ne (t := 34) d_Mo_on_28 (by decide) (fun c_28 => ?_) (fun c_28 => (absurd c_28 (by decide)))
        obtain ⟨nn, hnn, rfl⟩ := sp_n30 (N := 30) rfl c_17
        refine wp_aload_n d_Mo_on_34 rfl rfl rfl ?_
        refine wp_iload_n d_Mo_on_35 rfl rfl ?_
        refine wp_iload_n d_Mo_on_36 rfl rfl ?_
        refine wp_iconst (v := 0) d_Mo_on_37 rfl ?_
        refine wp_iconst (v := 0) d_Mo_on_38 rfl ?_
        refine wp_callV (r := (R_12, T_12, 70)) (M' := m_Mo_layTubes) (as := [_, _, _, _]) (D' := D - 1) (C1 := 0) (C2 := 0) (S1 := 0) (S2 := 0) d_Mo_on_39 rfl w_1382 w_1384 w_48 hm_0 k_Mo_layTubes (Nat.le_of_ble_eq_true rfl) rfl (Nat.le_of_ble_eq_true rfl) (by omega) rfl rfl ?_
        refine c_Mo_lay2 (by omega) (nn := nn) (jj := 0) hw hh e32 hnn (by decide) (fun I1 A1 hm1 h36 h37 h38 h39 => ?_)
        refine wp_aload_n d_Mo_on_42 rfl rfl rfl ?_
        refine wp_callV (r := (R_12, T_12, 70)) (M' := m_Mo_mostDrops) (as := []) (D' := D - 1) (C1 := 0) (C2 := 0) (S1 := 0) (S2 := 0) d_Mo_on_43 rfl w_1395 w_1397 w_51 hm_0 k_Mo_mostDrops (Nat.le_of_ble_eq_true rfl) rfl (Nat.le_of_ble_eq_true rfl) (by omega) rfl rfl ?_
        refine c_Mo_mostDrops (by omega) ((hm1.1 0 (by decide)).trans hn0) hw.1 ?_
        rw [sp_md_cg h39 n 0 (-5) (by have := hw.1; omega) (Or.inl (by decide))]
        refine wp_istore (ls' := [_, _, _, _, _]) d_Mo_on_46 (by decide) rfl ?_
        refine wp_iload_n d_Mo_on_48 rfl rfl ?_
        refine wp_if_ne (t := 59) d_Mo_on_49 (by decide) (fun c_49 => ?_) (fun c_49 => ?_)
        · skip
          refine wp_iload_n d_Mo_on_59 rfl rfl ?_
          refine wp_iconst (v := 1) d_Mo_on_60 rfl ?_
          refine wp_icmp_ne (t := 71) d_Mo_on_61 (by decide) (fun c_61 => ?_) (fun c_61 => ?_)
          · skip
            refine wp_iload_n d_Mo_on_71 rfl rfl ?_
            refine wp_iconst (v := 2) d_Mo_on_72 rfl ?_
            refine wp_icmp_ne (t := 81) d_Mo_on_73 (by decide) (fun c_73 => ?_) (fun c_73 => ?_)
            · skip
              refine wp_iload d_Mo_on_81 rfl ?_
              refine wp_if_ge (t := 90) d_Mo_on_83 (by decide) (fun c_83 => ?_) (fun c_83 => ?_)
              · skip
                refine wp_aload_n d_Mo_on_90 rfl rfl rfl ?_
                refine gM_39 rfl d_Mo_on_91 ?_
                refine wp_iload d_Mo_on_94 rfl ?_
                refine lM_39 d_Mo_on_96 ((sp_md_in n 0 (-5) (by have := hw.1; omega) (Or.inl (by decide))).resolve_left (Int32.not_lt.mpr c_83)) ?_
                refine wp_ireturn d_Mo_on_97 rfl rfl ?_
                have k1 := kk c_4 ⟨c_17, c_25⟩ nn hnn rfl I1 A1 hm1
                first
                  | (rw [if_pos c_49] at k1; rw [h36]; exact k1)
                  | (rw [if_neg c_49, if_pos c_61] at k1; rw [h38]; exact k1)
                  | (rw [if_neg c_49, if_neg c_61, if_pos c_73] at k1; exact k1)
                  | (rw [if_neg c_49, if_neg c_61, if_neg c_73, if_pos (Int32.not_le.mp c_83)] at k1; exact k1)
                  | (rw [if_neg c_49, if_neg c_61, if_neg c_73, if_neg (Int32.not_lt.mpr c_83)] at k1
                     have hv := (sp_md_in (f := (sp_drp (A 5, A 6, A 9, ln, n, cl) (I 2) (A 7) (A 8) (nn) (bt) (0) (0))) n 0 (-5) (by have := hw.1; omega) (Or.inl (by decide))).resolve_left (Int32.not_lt.mpr c_83)
                     rw [h39 _ (Nat.not_le.mp fun q => hv (Or.inr q))]
                     exact k1)
              · skip
                refine wp_iconst (v := 0) d_Mo_on_86 rfl ?_
                refine wp_goto (t := 97) d_Mo_on_87 (by decide) ?_
                refine wp_ireturn d_Mo_on_97 rfl rfl ?_
                have k1 := kk c_4 ⟨c_17, c_25⟩ nn hnn rfl I1 A1 hm1
                first
                  | (rw [if_pos c_49] at k1; rw [h36]; exact k1)
                  | (rw [if_neg c_49, if_pos c_61] at k1; rw [h38]; exact k1)
                  | (rw [if_neg c_49, if_neg c_61, if_pos c_73] at k1; exact k1)
                  | (rw [if_neg c_49, if_neg c_61, if_neg c_73, if_pos (Int32.not_le.mp c_83)] at k1; exact k1)
                  | (rw [if_neg c_49, if_neg c_61, if_neg c_73, if_neg (Int32.not_lt.mpr c_83)] at k1
                     have hv := (sp_md_in (f := (sp_drp (A 5, A 6, A 9, ln, n, cl) (I 2) (A 7) (A 8) (nn) (bt) (0) (0))) n 0 (-5) (by have := hw.1; omega) (Or.inl (by decide))).resolve_left (Int32.not_lt.mpr c_83)
                     rw [h39 _ (Nat.not_le.mp fun q => hv (Or.inr q))]
                     exact k1)
            · skip
              refine wp_iload d_Mo_on_76 rfl ?_
              refine wp_goto (t := 97) d_Mo_on_78 (by decide) ?_
              refine wp_ireturn d_Mo_on_97 rfl rfl ?_
              have k1 := kk c_4 ⟨c_17, c_25⟩ nn hnn rfl I1 A1 hm1
              first
                | (rw [if_pos c_49] at k1; rw [h36]; exact k1)
                | (rw [if_neg c_49, if_pos c_61] at k1; rw [h38]; exact k1)
                | (rw [if_neg c_49, if_neg c_61, if_pos c_73] at k1; exact k1)
                | (rw [if_neg c_49, if_neg c_61, if_neg c_73, if_pos (Int32.not_le.mp c_83)] at k1; exact k1)
                | (rw [if_neg c_49, if_neg c_61, if_neg c_73, if_neg (Int32.not_lt.mpr c_83)] at k1
                   have hv := (sp_md_in (f := (sp_drp (A 5, A 6, A 9, ln, n, cl) (I 2) (A 7) (A 8) (nn) (bt) (0) (0))) n 0 (-5) (by have := hw.1; omega) (Or.inl (by decide))).resolve_left (Int32.not_lt.mpr c_83)
                   rw [h39 _ (Nat.not_le.mp fun q => hv (Or.inr q))]
                   exact k1)
          · skip
            refine wp_aload_n d_Mo_on_64 rfl rfl rfl ?_
            refine gM_38 rfl d_Mo_on_65 ?_
            refine wp_goto (t := 97) d_Mo_on_68 (by decide) ?_
            refine wp_ireturn d_Mo_on_97 rfl rfl ?_
            have k1 := kk c_4 ⟨c_17, c_25⟩ nn hnn rfl I1 A1 hm1
            first
              | (rw [if_pos c_49] at k1; rw [h36]; exact k1)
              | (rw [if_neg c_49, if_pos c_61] at k1; rw [h38]; exact k1)
              | (rw [if_neg c_49, if_neg c_61, if_pos c_73] at k1; exact k1)
              | (rw [if_neg c_49, if_neg c_61, if_neg c_73, if_pos (Int32.not_le.mp c_83)] at k1; exact k1)
              | (rw [if_neg c_49, if_neg c_61, if_neg c_73, if_neg (Int32.not_lt.mpr c_83)] at k1
                 have hv := (sp_md_in (f := (sp_drp (A 5, A 6, A 9, ln, n, cl) (I 2) (A 7) (A 8) (nn) (bt) (0) (0))) n 0 (-5) (by have := hw.1; omega) (Or.inl (by decide))).resolve_left (Int32.not_lt.mpr c_83)
                 rw [h39 _ (Nat.not_le.mp fun q => hv (Or.inr q))]
                 exact k1)
        · skip
          refine wp_aload_n d_Mo_on_52 rfl rfl rfl ?_
          refine gM_36 rfl d_Mo_on_53 ?_
          refine wp_goto (t := 97) d_Mo_on_56 (by decide) ?_
          refine wp_ireturn d_Mo_on_97 rfl rfl ?_
          have k1 := kk c_4 ⟨c_17, c_25⟩ nn hnn rfl I1 A1 hm1
          first
            | (rw [if_pos c_49] at k1; rw [h36]; exact k1)
            | (rw [if_neg c_49, if_pos c_61] at k1; rw [h38]; exact k1)
            | (rw [if_neg c_49, if_neg c_61, if_pos c_73] at k1; exact k1)
            | (rw [if_neg c_49, if_neg c_61, if_neg c_73, if_pos (Int32.not_le.mp c_83)] at k1; exact k1)
            | (rw [if_neg c_49, if_neg c_61, if_neg c_73, if_neg (Int32.not_lt.mpr c_83)] at k1
               have hv := (sp_md_in (f := (sp_drp (A 5, A 6, A 9, ln, n, cl) (I 2) (A 7) (A 8) (nn) (bt) (0) (0))) n 0 (-5) (by have := hw.1; omega) (Or.inl (by decide))).resolve_left (Int32.not_lt.mpr c_83)
               rw [h39 _ (Nat.not_le.mp fun q => hv (Or.inr q))]
               exact k1)
      · skip
        refine wp_if_ne (t := 34) d_Mo_on_28 (by decide) (fun c_28 => (absurd c_28 (by decide))) (fun c_28 => ?_)
        refine wp_bipush (v := (-2)) d_Mo_on_31 (by decide) ?_
        refine wp_ireturn d_Mo_on_33 rfl rfl ?_
        first | exact kb c_4 (fun z => c_17 z.1) | exact kb c_4 (fun z => c_25 z.2)
    · skip
      refine wp_if_eq (t := 31) d_Mo_on_20 (by decide) (fun c_20 => ?_) (fun c_20 => (absurd c_20 (by decide)))
      refine wp_bipush (v := (-2)) d_Mo_on_31 (by decide) ?_
      refine wp_ireturn d_Mo_on_33 rfl rfl ?_
      first | exact kb c_4 (fun z => c_17 z.1) | exact kb c_4 (fun z => c_25 z.2)
  · skip
    refine wp_if_ne (t := 12) d_Mo_on_7 (by decide) (fun c_7 => (absurd c_7 (by decide))) (fun c_7 => ?_)
    refine wp_iconst (v := (-1)) d_Mo_on_10 rfl ?_
    refine wp_ireturn d_Mo_on_11 rfl rfl ?_
    exact kn c_4
set_option maxRecDepth 4000 in
theorem l_Mo_safeNow_2 {n b : Nat} {ln : Nat → Nat} {cl : List sp_Cl} {nn : Nat} (hD : 7 ≤ D) (hw : mo_w I A n ln b cl) (hh : mo_h A) (e32 : I 32 = 9999) (hn30 : nn ≤ 30) : ∀ (q bb : Nat) (I1 : Nat → Int32) (A1 : Nat → Nat → Int32), bb + q = 100 → ms [29, 30, 31, 33, 36, 37, 38] [28, 34, 35, 39] I I1 A A1 → (∀ (I' : Nat → Int32) (A' : Nat → Nat → Int32), ms [29, 30, 31, 33, 36, 37, 38] [28, 34, 35, 39] I I' A A' → Q (some (.int (sp_safe (fun z => (sp_many (A 5, A 6, A 9, ln, n, cl) (I 2) (A 7) (A 8) (nn) (z) (0) (0))) (nI nn) q bb))) (HM X I' A' L E)) → px_W G D 0 0 m_Mo_safeNow 2 [some (.ref X.length), some (.int (nI nn)), some (.int (nI bb))] [] (HM X I1 A1 L E) Q := by
  intro q
  induction q with
  | zero =>
    intro bb I1 A1 hb hm hq
    have hb2 : bb = 100 := by omega
    subst hb2
    refine wp_iload_n d_Mo_safeNow_2 rfl rfl ?_
    refine wp_bipush (v := 100) d_Mo_safeNow_3 (by decide) ?_
    refine wp_icmp_ge (t := 26) d_Mo_safeNow_5 (by decide) (fun c_5 => ?_) (fun c_5 => absurd (by decide) c_5)
    refine wp_bipush (v := (-5)) d_Mo_safeNow_26 (by decide) ?_
    refine wp_ireturn d_Mo_safeNow_28 rfl rfl ?_
    exact hq _ _ hm
  | succ q ih =>
    intro bb I1 A1 hb hm hq
    have hw1 : mo_w I1 A1 n ln b cl := hw.ms hm (by decide) (by decide)
    have hh1 : mo_h A1 := hh.ms hm (by decide)
    have e1 : I1 32 = 9999 := (hm.1 32 (by decide)).trans e32
    have a5 : A1 5 = A 5 := hm.2 5 (by decide)
    have a6 : A1 6 = A 6 := hm.2 6 (by decide)
    have a7 : A1 7 = A 7 := hm.2 7 (by decide)
    have a8 : A1 8 = A 8 := hm.2 8 (by decide)
    have a9 : A1 9 = A 9 := hm.2 9 (by decide)
    have i2 : I1 2 = I 2 := hm.1 2 (by decide)
    have hst : sp_safe (fun z => (sp_many (A 5, A 6, A 9, ln, n, cl) (I 2) (A 7) (A 8) (nn) (z) (0) (0))) (nI nn) (q + 1) bb = if (sp_many (A 5, A 6, A 9, ln, n, cl) (I 2) (A 7) (A 8) (nn) (nI bb) (0) (0)) = nI nn then nI bb else sp_safe (fun z => (sp_many (A 5, A 6, A 9, ln, n, cl) (I 2) (A 7) (A 8) (nn) (z) (0) (0))) (nI nn) q (bb + 1) := rfl
    rw [hst] at hq
    have eg : sp_many (A1 5, A1 6, A1 9, ln, n, cl) (I1 2) (A1 7) (A1 8) (nn) (nI bb) (0) (0) = sp_many (A 5, A 6, A 9, ln, n, cl) (I 2) (A 7) (A 8) (nn) (nI bb) (0) (0) := by rw [a5, a6, a7, a8, a9, i2]
    refine wp_iload_n d_Mo_safeNow_2 rfl rfl ?_
    refine wp_bipush (v := 100) d_Mo_safeNow_3 (by decide) ?_
    refine wp_icmp_ge (t := 26) d_Mo_safeNow_5 (by decide) (fun c_5 => absurd c_5 (nI_ge (b := 100) (by omega) (by decide))) (fun c_5 => ?_)
    refine wp_aload_n d_Mo_safeNow_8 rfl rfl rfl ?_
    refine wp_iload_n d_Mo_safeNow_9 rfl rfl ?_
    refine wp_iload_n d_Mo_safeNow_10 rfl rfl ?_
    refine wp_callV (r := (R_12, T_12, 70)) (M' := m_Mo_upBy) (as := [_, _]) (D' := D - 1) (C1 := 0) (C2 := 0) (S1 := 0) (S2 := 0) d_Mo_safeNow_11 rfl w_1407 w_1409 w_53 hm_0 k_Mo_upBy (Nat.le_of_ble_eq_true rfl) rfl (Nat.le_of_ble_eq_true rfl) (by omega) rfl rfl ?_
    refine c_Mo_upBy (by omega) (nn := nn) hw1 hh1 e1 hn30 (fun I2 A2 hm2 g37 g38 g39 => ?_)
    rw [eg]
    refine wp_iload_n d_Mo_safeNow_14 rfl rfl ?_
    refine wp_icmp_ne (t := 20) d_Mo_safeNow_15 (by decide) (fun c_15 => ?_) (fun c_15 => ?_)
    · skip
      refine wp_iinc (v := _ + 1) (ls' := [_, _, _]) d_Mo_safeNow_20 (by decide) rfl rfl rfl ?_
      refine wp_goto (t := 2) d_Mo_safeNow_23 (by decide) ?_
      rw [if_neg c_15] at hq
      rw [show nI bb + 1 = nI (bb + 1) from nI_1 bb]
      exact ih (bb + 1) _ _ (by omega) (hm.tr hm2) hq
    · skip
      refine wp_iload_n d_Mo_safeNow_18 rfl rfl ?_
      refine wp_ireturn d_Mo_safeNow_19 rfl rfl ?_
      rw [if_pos c_15] at hq
      exact hq _ _ (hm.tr hm2)
set_option maxRecDepth 4000 in
theorem c_Mo_safeNow {n b : Nat} {ln : Nat → Nat} {cl : List sp_Cl} {nn : Nat} (hD : 7 ≤ D) (hw : mo_w I A n ln b cl) (hh : mo_h A) (e32 : I 32 = 9999) (hn30 : nn ≤ 30) (k : ∀ (I' : Nat → Int32) (A' : Nat → Nat → Int32), ms [29, 30, 31, 33, 36, 37, 38] [28, 34, 35, 39] I I' A A' → Q (some (.int (sp_safe (fun z => (sp_many (A 5, A 6, A 9, ln, n, cl) (I 2) (A 7) (A 8) (nn) (z) (0) (0))) (nI nn) 99 1))) (HM X I' A' L E)) : px_W G D 0 0 m_Mo_safeNow 0 (px_ent 3 [.ref X.length, .int (nI nn)]) [] (HM X I A L E) Q := by
  show px_W _ _ _ _ _ _ [some (.ref X.length), some (.int (nI nn)), none] [] _ _
  refine wp_iconst (v := 1) d_Mo_safeNow_0 rfl ?_
  refine wp_istore_n (ls' := [_, _, _]) d_Mo_safeNow_1 rfl (by decide) rfl ?_
  exact l_Mo_safeNow_2 hD hw hh e32 hn30 99 1 I A (by omega) ms.rf k
set_option maxRecDepth 4000 in
theorem c_Mo_safe {n b : Nat} {ln : Nat → Nat} {cl : List sp_Cl} {x : Int32} (hD : 8 ≤ D) (hw : mo_w I A n ln b cl) (hh : mo_h A) (e32 : I 32 = 9999) (kb : ¬ (1 ≤ x ∧ x ≤ 20) → Q (some (.int (-2))) (HM X I A L E)) (kk : (1 ≤ x ∧ x ≤ 20) → ∀ nn, nn ≤ 20 → x = nI nn → ∀ (I' : Nat → Int32) (A' : Nat → Nat → Int32), ms [29, 30, 31, 33, 36, 37, 38] [28, 34, 35, 39] I I' A A' → Q (some (.int (sp_safe (fun z => (sp_many (A 5, A 6, A 9, ln, n, cl) (I 2) (A 7) (A 8) (nn) (z) (0) (0))) (nI nn) 99 1))) (HM X I' A' L E)) : px_W G D 0 0 m_Mo_safe 0 (px_ent 2 [.ref X.length, .int x]) [] (HM X I A L E) Q := by
  show px_W _ _ _ _ _ _ [some (.ref X.length), some (.int x)] [] _ _
  refine wp_aload_n d_Mo_safe_0 rfl rfl rfl ?_
  refine wp_iload_n d_Mo_safe_1 rfl rfl ?_
  refine wp_iconst (v := 1) d_Mo_safe_2 rfl ?_
  refine wp_bipush (v := 20) d_Mo_safe_3 (by decide) ?_
  refine wp_callV (r := (R_12, T_12, 70)) (M' := m_Mo_in) (as := [_, _, _]) (D' := D - 1) (C1 := 0) (C2 := 0) (S1 := 0) (S2 := 0) d_Mo_safe_5 rfl w_1209 w_1211 w_15 hm_0 k_Mo_in (Nat.le_of_ble_eq_true rfl) rfl (Nat.le_of_ble_eq_true rfl) (by omega) rfl rfl ?_
  refine c_Mo_in (by omega)  (fun c_5 => ?_) (fun c_5 => ?_)
  · skip
    refine wp_if_eq (t := 19) d_Mo_safe_8 (by decide) (fun c_8 => (absurd c_8 (by decide))) (fun c_8 => ?_)
    obtain ⟨nn, hnn, rfl⟩ := sp_n1 (N := 20) rfl c_5
    refine wp_aload_n d_Mo_safe_11 rfl rfl rfl ?_
    refine wp_iload_n d_Mo_safe_12 rfl rfl ?_
    refine wp_callV (r := (R_12, T_12, 70)) (M' := m_Mo_safeNow) (as := [_]) (D' := D - 1) (C1 := 0) (C2 := 0) (S1 := 0) (S2 := 0) d_Mo_safe_13 rfl w_1403 w_1405 w_52 hm_0 k_Mo_safeNow (Nat.le_of_ble_eq_true rfl) rfl (Nat.le_of_ble_eq_true rfl) (by omega) rfl rfl ?_
    refine c_Mo_safeNow (by omega) (nn := nn) hw hh e32 (by omega) (fun I1 A1 hm1 => ?_)
    refine wp_goto (t := 21) d_Mo_safe_16 (by decide) ?_
    refine wp_ireturn d_Mo_safe_21 rfl rfl ?_
    exact kk c_5 nn hnn rfl _ _ hm1
  · skip
    refine wp_if_eq (t := 19) d_Mo_safe_8 (by decide) (fun c_8 => ?_) (fun c_8 => (absurd c_8 (by decide)))
    refine wp_bipush (v := (-2)) d_Mo_safe_19 (by decide) ?_
    refine wp_ireturn d_Mo_safe_21 rfl rfl ?_
    exact kb c_5
set_option maxRecDepth 4000 in
theorem l_Mo_best_37 {n b : Nat} {ln : Nat → Nat} {cl : List sp_Cl} {nn : Nat} {y : Int32} (hD : 7 ≤ D) (hw : mo_w I A n ln b cl) (hh : mo_h A) (e32 : I 32 = 9999) (hn30 : nn ≤ 30) : ∀ (q bb : Nat) (z : Int32 × Int32 × Int32) (I1 : Nat → Int32) (A1 : Nat → Nat → Int32), bb + q = 100 → ms [29, 30, 31, 33, 36, 37, 38] [28, 34, 35, 39] I I1 A A1 → (∀ (I' : Nat → Int32) (A' : Nat → Nat → Int32), ms [29, 30, 31, 33, 36, 37, 38] [28, 34, 35, 39] I I' A A' → Q (some (.int (if y = 0 then (sp_best (fun z => (sp_many (A 5, A 6, A 9, ln, n, cl) (I 2) (A 7) (A 8) (nn) (z) (0) (0))) (fun z => (sp_lat (A 5, A 6, A 9, ln, n, cl) (I 2) (A 7) (A 8) (nn) (z) (0) (0))) q bb z).1 else (sp_best (fun z => (sp_many (A 5, A 6, A 9, ln, n, cl) (I 2) (A 7) (A 8) (nn) (z) (0) (0))) (fun z => (sp_lat (A 5, A 6, A 9, ln, n, cl) (I 2) (A 7) (A 8) (nn) (z) (0) (0))) q bb z).2.1))) (HM X I' A' L E)) → px_W G D 0 0 m_Mo_best 37 [some (.ref X.length), some (.int (nI nn)), some (.int y), some (.int z.1), some (.int z.2.1), some (.int z.2.2), some (.int (nI bb)), none] [] (HM X I1 A1 L E) Q := by
  intro q
  induction q with
  | zero =>
    intro bb z I1 A1 hb hm hq
    have hb2 : bb = 100 := by omega
    subst hb2
    refine wp_iload d_Mo_best_37 rfl ?_
    refine wp_bipush (v := 100) d_Mo_best_39 (by decide) ?_
    refine wp_icmp_ge (t := 98) d_Mo_best_41 (by decide) (fun c_41 => ?_) (fun c_41 => absurd (by decide) c_41)
    refine wp_iload_n d_Mo_best_98 rfl rfl ?_
    refine wp_if_ne (t := 106) d_Mo_best_99 (by decide) (fun c_99 => ?_) (fun c_99 => ?_)
    · skip
      refine wp_iload d_Mo_best_106 rfl ?_
      refine wp_ireturn d_Mo_best_108 rfl rfl ?_
      have h2 := hq _ _ hm
      first
        | (rw [if_pos c_99] at h2; exact h2)
        | (rw [if_neg c_99] at h2; exact h2)
    · skip
      refine wp_iload_n d_Mo_best_102 rfl rfl ?_
      refine wp_goto (t := 108) d_Mo_best_103 (by decide) ?_
      refine wp_ireturn d_Mo_best_108 rfl rfl ?_
      have h2 := hq _ _ hm
      first
        | (rw [if_pos c_99] at h2; exact h2)
        | (rw [if_neg c_99] at h2; exact h2)
  | succ q ih =>
    intro bb z I1 A1 hb hm hq
    have hw1 : mo_w I1 A1 n ln b cl := hw.ms hm (by decide) (by decide)
    have hh1 : mo_h A1 := hh.ms hm (by decide)
    have e1 : I1 32 = 9999 := (hm.1 32 (by decide)).trans e32
    have a5 : A1 5 = A 5 := hm.2 5 (by decide)
    have a6 : A1 6 = A 6 := hm.2 6 (by decide)
    have a7 : A1 7 = A 7 := hm.2 7 (by decide)
    have a8 : A1 8 = A 8 := hm.2 8 (by decide)
    have a9 : A1 9 = A 9 := hm.2 9 (by decide)
    have i2 : I1 2 = I 2 := hm.1 2 (by decide)
    have hst : sp_best (fun z => (sp_many (A 5, A 6, A 9, ln, n, cl) (I 2) (A 7) (A 8) (nn) (z) (0) (0))) (fun z => (sp_lat (A 5, A 6, A 9, ln, n, cl) (I 2) (A 7) (A 8) (nn) (z) (0) (0))) (q + 1) bb z = if (sp_many (A 5, A 6, A 9, ln, n, cl) (I 2) (A 7) (A 8) (nn) (nI bb) (0) (0)) < z.2.1 ∨ ((sp_many (A 5, A 6, A 9, ln, n, cl) (I 2) (A 7) (A 8) (nn) (nI bb) (0) (0)) = z.2.1 ∧ z.2.2 ≤ (sp_lat (A 5, A 6, A 9, ln, n, cl) (I 2) (A 7) (A 8) (nn) (nI bb) (0) (0))) then sp_best (fun z => (sp_many (A 5, A 6, A 9, ln, n, cl) (I 2) (A 7) (A 8) (nn) (z) (0) (0))) (fun z => (sp_lat (A 5, A 6, A 9, ln, n, cl) (I 2) (A 7) (A 8) (nn) (z) (0) (0))) q (bb + 1) z else sp_best (fun z => (sp_many (A 5, A 6, A 9, ln, n, cl) (I 2) (A 7) (A 8) (nn) (z) (0) (0))) (fun z => (sp_lat (A 5, A 6, A 9, ln, n, cl) (I 2) (A 7) (A 8) (nn) (z) (0) (0))) q (bb + 1) (nI bb, (sp_many (A 5, A 6, A 9, ln, n, cl) (I 2) (A 7) (A 8) (nn) (nI bb) (0) (0)), (sp_lat (A 5, A 6, A 9, ln, n, cl) (I 2) (A 7) (A 8) (nn) (nI bb) (0) (0))) := rfl
    rw [hst] at hq
    have eg : sp_many (A1 5, A1 6, A1 9, ln, n, cl) (I1 2) (A1 7) (A1 8) (nn) (nI bb) (0) (0) = sp_many (A 5, A 6, A 9, ln, n, cl) (I 2) (A 7) (A 8) (nn) (nI bb) (0) (0) := by rw [a5, a6, a7, a8, a9, i2]
    have el : sp_lat (A1 5, A1 6, A1 9, ln, n, cl) (I1 2) (A1 7) (A1 8) (nn) (nI bb) (0) (0) = sp_lat (A 5, A 6, A 9, ln, n, cl) (I 2) (A 7) (A 8) (nn) (nI bb) (0) (0) := by rw [a5, a6, a7, a8, a9, i2]
    refine wp_iload d_Mo_best_37 rfl ?_
    refine wp_bipush (v := 100) d_Mo_best_39 (by decide) ?_
    refine wp_icmp_ge (t := 98) d_Mo_best_41 (by decide) (fun c_41 => absurd c_41 (nI_ge (b := 100) (by omega) (by decide))) (fun c_41 => ?_)
    refine wp_aload_n d_Mo_best_44 rfl rfl rfl ?_
    refine wp_iload_n d_Mo_best_45 rfl rfl ?_
    refine wp_iload d_Mo_best_46 rfl ?_
    refine wp_callV (r := (R_12, T_12, 70)) (M' := m_Mo_upBy) (as := [_, _]) (D' := D - 1) (C1 := 0) (C2 := 0) (S1 := 0) (S2 := 0) d_Mo_best_48 rfl w_1407 w_1409 w_53 hm_0 k_Mo_upBy (Nat.le_of_ble_eq_true rfl) rfl (Nat.le_of_ble_eq_true rfl) (by omega) rfl rfl ?_
    refine c_Mo_upBy (by omega) (nn := nn) hw1 hh1 e1 hn30 (fun I2 A2 hm2 g37 g38 g39 => ?_)
    rw [eg]
    rw [el] at g38
    refine wp_istore (ls' := [_, _, _, _, _, _, _, _]) d_Mo_best_51 (by decide) rfl ?_
    refine wp_iload d_Mo_best_53 rfl ?_
    refine wp_iload d_Mo_best_55 rfl ?_
    refine wp_icmp_lt (t := 92) d_Mo_best_57 (by decide) (fun c_57 => ?_) (fun c_57 => ?_)
    · skip
      refine wp_iinc (v := _ + 1) (ls' := [_, _, _, _, _, _, _, _]) d_Mo_best_92 (by decide) rfl rfl rfl ?_
      refine wp_goto (t := 37) d_Mo_best_95 (by decide) ?_
      refine wp_less (ls' := [some (.ref X.length), some (.int _), some (.int _), some (.int _), some (.int _), some (.int _), some (.int _), none]) ⟨rfl, rfl, rfl, rfl, rfl, rfl, rfl, trivial⟩ ?_
      rw [show nI bb + 1 = nI (bb + 1) from nI_1 bb]
      first
        | (have hc : ((sp_many (A 5, A 6, A 9, ln, n, cl) (I 2) (A 7) (A 8) (nn) (nI bb) (0) (0)) < z.2.1 ∨ ((sp_many (A 5, A 6, A 9, ln, n, cl) (I 2) (A 7) (A 8) (nn) (nI bb) (0) (0)) = z.2.1 ∧ z.2.2 ≤ (sp_lat (A 5, A 6, A 9, ln, n, cl) (I 2) (A 7) (A 8) (nn) (nI bb) (0) (0)))) := Or.inr (And.intro c_64 (Int32.not_lt.mp c_73))
           rw [if_pos hc] at hq; exact ih (bb + 1) z _ _ (by omega) (hm.tr hm2) hq)
        | (have hc : ¬ ((sp_many (A 5, A 6, A 9, ln, n, cl) (I 2) (A 7) (A 8) (nn) (nI bb) (0) (0)) < z.2.1 ∨ ((sp_many (A 5, A 6, A 9, ln, n, cl) (I 2) (A 7) (A 8) (nn) (nI bb) (0) (0)) = z.2.1 ∧ z.2.2 ≤ (sp_lat (A 5, A 6, A 9, ln, n, cl) (I 2) (A 7) (A 8) (nn) (nI bb) (0) (0)))) := fun w => w.elim c_57 (fun w => absurd w.2 (Int32.not_le.mpr c_73))
           rw [if_neg hc] at hq; exact ih (bb + 1) (_, _, _) _ _ (by omega) (hm.tr hm2) hq)
        | (have hc : ¬ ((sp_many (A 5, A 6, A 9, ln, n, cl) (I 2) (A 7) (A 8) (nn) (nI bb) (0) (0)) < z.2.1 ∨ ((sp_many (A 5, A 6, A 9, ln, n, cl) (I 2) (A 7) (A 8) (nn) (nI bb) (0) (0)) = z.2.1 ∧ z.2.2 ≤ (sp_lat (A 5, A 6, A 9, ln, n, cl) (I 2) (A 7) (A 8) (nn) (nI bb) (0) (0)))) := fun w => w.elim c_57 (fun w => c_64 w.1)
           rw [if_neg hc] at hq; exact ih (bb + 1) (_, _, _) _ _ (by omega) (hm.tr hm2) hq)
        | (have hc : ((sp_many (A 5, A 6, A 9, ln, n, cl) (I 2) (A 7) (A 8) (nn) (nI bb) (0) (0)) < z.2.1 ∨ ((sp_many (A 5, A 6, A 9, ln, n, cl) (I 2) (A 7) (A 8) (nn) (nI bb) (0) (0)) = z.2.1 ∧ z.2.2 ≤ (sp_lat (A 5, A 6, A 9, ln, n, cl) (I 2) (A 7) (A 8) (nn) (nI bb) (0) (0)))) := Or.inl c_57
           rw [if_pos hc] at hq; exact ih (bb + 1) z _ _ (by omega) (hm.tr hm2) hq)
    · skip
      refine wp_iload d_Mo_best_60 rfl ?_
      refine wp_iload d_Mo_best_62 rfl ?_
      refine wp_icmp_ne (t := 79) d_Mo_best_64 (by decide) (fun c_64 => ?_) (fun c_64 => ?_)
      · skip
        refine wp_iload d_Mo_best_79 rfl ?_
        refine wp_istore_n (ls' := [_, _, _, _, _, _, _, _]) d_Mo_best_81 rfl (by decide) rfl ?_
        refine wp_iload d_Mo_best_82 rfl ?_
        refine wp_istore (ls' := [_, _, _, _, _, _, _, _]) d_Mo_best_84 (by decide) rfl ?_
        refine wp_aload_n d_Mo_best_86 rfl rfl rfl ?_
        refine gM_38 rfl d_Mo_best_87 ?_
        rw [g38]
        refine wp_istore (ls' := [_, _, _, _, _, _, _, _]) d_Mo_best_90 (by decide) rfl ?_
        refine wp_iinc (v := _ + 1) (ls' := [_, _, _, _, _, _, _, _]) d_Mo_best_92 (by decide) rfl rfl rfl ?_
        refine wp_goto (t := 37) d_Mo_best_95 (by decide) ?_
        refine wp_less (ls' := [some (.ref X.length), some (.int _), some (.int _), some (.int _), some (.int _), some (.int _), some (.int _), none]) ⟨rfl, rfl, rfl, rfl, rfl, rfl, rfl, trivial⟩ ?_
        rw [show nI bb + 1 = nI (bb + 1) from nI_1 bb]
        first
          | (have hc : ((sp_many (A 5, A 6, A 9, ln, n, cl) (I 2) (A 7) (A 8) (nn) (nI bb) (0) (0)) < z.2.1 ∨ ((sp_many (A 5, A 6, A 9, ln, n, cl) (I 2) (A 7) (A 8) (nn) (nI bb) (0) (0)) = z.2.1 ∧ z.2.2 ≤ (sp_lat (A 5, A 6, A 9, ln, n, cl) (I 2) (A 7) (A 8) (nn) (nI bb) (0) (0)))) := Or.inr (And.intro c_64 (Int32.not_lt.mp c_73))
             rw [if_pos hc] at hq; exact ih (bb + 1) z _ _ (by omega) (hm.tr hm2) hq)
          | (have hc : ¬ ((sp_many (A 5, A 6, A 9, ln, n, cl) (I 2) (A 7) (A 8) (nn) (nI bb) (0) (0)) < z.2.1 ∨ ((sp_many (A 5, A 6, A 9, ln, n, cl) (I 2) (A 7) (A 8) (nn) (nI bb) (0) (0)) = z.2.1 ∧ z.2.2 ≤ (sp_lat (A 5, A 6, A 9, ln, n, cl) (I 2) (A 7) (A 8) (nn) (nI bb) (0) (0)))) := fun w => w.elim c_57 (fun w => absurd w.2 (Int32.not_le.mpr c_73))
             rw [if_neg hc] at hq; exact ih (bb + 1) (_, _, _) _ _ (by omega) (hm.tr hm2) hq)
          | (have hc : ¬ ((sp_many (A 5, A 6, A 9, ln, n, cl) (I 2) (A 7) (A 8) (nn) (nI bb) (0) (0)) < z.2.1 ∨ ((sp_many (A 5, A 6, A 9, ln, n, cl) (I 2) (A 7) (A 8) (nn) (nI bb) (0) (0)) = z.2.1 ∧ z.2.2 ≤ (sp_lat (A 5, A 6, A 9, ln, n, cl) (I 2) (A 7) (A 8) (nn) (nI bb) (0) (0)))) := fun w => w.elim c_57 (fun w => c_64 w.1)
             rw [if_neg hc] at hq; exact ih (bb + 1) (_, _, _) _ _ (by omega) (hm.tr hm2) hq)
          | (have hc : ((sp_many (A 5, A 6, A 9, ln, n, cl) (I 2) (A 7) (A 8) (nn) (nI bb) (0) (0)) < z.2.1 ∨ ((sp_many (A 5, A 6, A 9, ln, n, cl) (I 2) (A 7) (A 8) (nn) (nI bb) (0) (0)) = z.2.1 ∧ z.2.2 ≤ (sp_lat (A 5, A 6, A 9, ln, n, cl) (I 2) (A 7) (A 8) (nn) (nI bb) (0) (0)))) := Or.inl c_57
             rw [if_pos hc] at hq; exact ih (bb + 1) z _ _ (by omega) (hm.tr hm2) hq)
      · skip
        refine wp_aload_n d_Mo_best_67 rfl rfl rfl ?_
        refine gM_38 rfl d_Mo_best_68 ?_
        rw [g38]
        refine wp_iload d_Mo_best_71 rfl ?_
        refine wp_icmp_lt (t := 79) d_Mo_best_73 (by decide) (fun c_73 => ?_) (fun c_73 => ?_)
        · skip
          refine wp_iload d_Mo_best_79 rfl ?_
          refine wp_istore_n (ls' := [_, _, _, _, _, _, _, _]) d_Mo_best_81 rfl (by decide) rfl ?_
          refine wp_iload d_Mo_best_82 rfl ?_
          refine wp_istore (ls' := [_, _, _, _, _, _, _, _]) d_Mo_best_84 (by decide) rfl ?_
          refine wp_aload_n d_Mo_best_86 rfl rfl rfl ?_
          refine gM_38 rfl d_Mo_best_87 ?_
          rw [g38]
          refine wp_istore (ls' := [_, _, _, _, _, _, _, _]) d_Mo_best_90 (by decide) rfl ?_
          refine wp_iinc (v := _ + 1) (ls' := [_, _, _, _, _, _, _, _]) d_Mo_best_92 (by decide) rfl rfl rfl ?_
          refine wp_goto (t := 37) d_Mo_best_95 (by decide) ?_
          refine wp_less (ls' := [some (.ref X.length), some (.int _), some (.int _), some (.int _), some (.int _), some (.int _), some (.int _), none]) ⟨rfl, rfl, rfl, rfl, rfl, rfl, rfl, trivial⟩ ?_
          rw [show nI bb + 1 = nI (bb + 1) from nI_1 bb]
          first
            | (have hc : ((sp_many (A 5, A 6, A 9, ln, n, cl) (I 2) (A 7) (A 8) (nn) (nI bb) (0) (0)) < z.2.1 ∨ ((sp_many (A 5, A 6, A 9, ln, n, cl) (I 2) (A 7) (A 8) (nn) (nI bb) (0) (0)) = z.2.1 ∧ z.2.2 ≤ (sp_lat (A 5, A 6, A 9, ln, n, cl) (I 2) (A 7) (A 8) (nn) (nI bb) (0) (0)))) := Or.inr (And.intro c_64 (Int32.not_lt.mp c_73))
               rw [if_pos hc] at hq; exact ih (bb + 1) z _ _ (by omega) (hm.tr hm2) hq)
            | (have hc : ¬ ((sp_many (A 5, A 6, A 9, ln, n, cl) (I 2) (A 7) (A 8) (nn) (nI bb) (0) (0)) < z.2.1 ∨ ((sp_many (A 5, A 6, A 9, ln, n, cl) (I 2) (A 7) (A 8) (nn) (nI bb) (0) (0)) = z.2.1 ∧ z.2.2 ≤ (sp_lat (A 5, A 6, A 9, ln, n, cl) (I 2) (A 7) (A 8) (nn) (nI bb) (0) (0)))) := fun w => w.elim c_57 (fun w => absurd w.2 (Int32.not_le.mpr c_73))
               rw [if_neg hc] at hq; exact ih (bb + 1) (_, _, _) _ _ (by omega) (hm.tr hm2) hq)
            | (have hc : ¬ ((sp_many (A 5, A 6, A 9, ln, n, cl) (I 2) (A 7) (A 8) (nn) (nI bb) (0) (0)) < z.2.1 ∨ ((sp_many (A 5, A 6, A 9, ln, n, cl) (I 2) (A 7) (A 8) (nn) (nI bb) (0) (0)) = z.2.1 ∧ z.2.2 ≤ (sp_lat (A 5, A 6, A 9, ln, n, cl) (I 2) (A 7) (A 8) (nn) (nI bb) (0) (0)))) := fun w => w.elim c_57 (fun w => c_64 w.1)
               rw [if_neg hc] at hq; exact ih (bb + 1) (_, _, _) _ _ (by omega) (hm.tr hm2) hq)
            | (have hc : ((sp_many (A 5, A 6, A 9, ln, n, cl) (I 2) (A 7) (A 8) (nn) (nI bb) (0) (0)) < z.2.1 ∨ ((sp_many (A 5, A 6, A 9, ln, n, cl) (I 2) (A 7) (A 8) (nn) (nI bb) (0) (0)) = z.2.1 ∧ z.2.2 ≤ (sp_lat (A 5, A 6, A 9, ln, n, cl) (I 2) (A 7) (A 8) (nn) (nI bb) (0) (0)))) := Or.inl c_57
               rw [if_pos hc] at hq; exact ih (bb + 1) z _ _ (by omega) (hm.tr hm2) hq)
        · skip
          refine wp_goto (t := 92) d_Mo_best_76 (by decide) ?_
          refine wp_iinc (v := _ + 1) (ls' := [_, _, _, _, _, _, _, _]) d_Mo_best_92 (by decide) rfl rfl rfl ?_
          refine wp_goto (t := 37) d_Mo_best_95 (by decide) ?_
          refine wp_less (ls' := [some (.ref X.length), some (.int _), some (.int _), some (.int _), some (.int _), some (.int _), some (.int _), none]) ⟨rfl, rfl, rfl, rfl, rfl, rfl, rfl, trivial⟩ ?_
          rw [show nI bb + 1 = nI (bb + 1) from nI_1 bb]
          first
            | (have hc : ((sp_many (A 5, A 6, A 9, ln, n, cl) (I 2) (A 7) (A 8) (nn) (nI bb) (0) (0)) < z.2.1 ∨ ((sp_many (A 5, A 6, A 9, ln, n, cl) (I 2) (A 7) (A 8) (nn) (nI bb) (0) (0)) = z.2.1 ∧ z.2.2 ≤ (sp_lat (A 5, A 6, A 9, ln, n, cl) (I 2) (A 7) (A 8) (nn) (nI bb) (0) (0)))) := Or.inr (And.intro c_64 (Int32.not_lt.mp c_73))
               rw [if_pos hc] at hq; exact ih (bb + 1) z _ _ (by omega) (hm.tr hm2) hq)
            | (have hc : ¬ ((sp_many (A 5, A 6, A 9, ln, n, cl) (I 2) (A 7) (A 8) (nn) (nI bb) (0) (0)) < z.2.1 ∨ ((sp_many (A 5, A 6, A 9, ln, n, cl) (I 2) (A 7) (A 8) (nn) (nI bb) (0) (0)) = z.2.1 ∧ z.2.2 ≤ (sp_lat (A 5, A 6, A 9, ln, n, cl) (I 2) (A 7) (A 8) (nn) (nI bb) (0) (0)))) := fun w => w.elim c_57 (fun w => absurd w.2 (Int32.not_le.mpr c_73))
               rw [if_neg hc] at hq; exact ih (bb + 1) (_, _, _) _ _ (by omega) (hm.tr hm2) hq)
            | (have hc : ¬ ((sp_many (A 5, A 6, A 9, ln, n, cl) (I 2) (A 7) (A 8) (nn) (nI bb) (0) (0)) < z.2.1 ∨ ((sp_many (A 5, A 6, A 9, ln, n, cl) (I 2) (A 7) (A 8) (nn) (nI bb) (0) (0)) = z.2.1 ∧ z.2.2 ≤ (sp_lat (A 5, A 6, A 9, ln, n, cl) (I 2) (A 7) (A 8) (nn) (nI bb) (0) (0)))) := fun w => w.elim c_57 (fun w => c_64 w.1)
               rw [if_neg hc] at hq; exact ih (bb + 1) (_, _, _) _ _ (by omega) (hm.tr hm2) hq)
            | (have hc : ((sp_many (A 5, A 6, A 9, ln, n, cl) (I 2) (A 7) (A 8) (nn) (nI bb) (0) (0)) < z.2.1 ∨ ((sp_many (A 5, A 6, A 9, ln, n, cl) (I 2) (A 7) (A 8) (nn) (nI bb) (0) (0)) = z.2.1 ∧ z.2.2 ≤ (sp_lat (A 5, A 6, A 9, ln, n, cl) (I 2) (A 7) (A 8) (nn) (nI bb) (0) (0)))) := Or.inl c_57
               rw [if_pos hc] at hq; exact ih (bb + 1) z _ _ (by omega) (hm.tr hm2) hq)
end MOC
