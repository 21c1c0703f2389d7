def sp_pW (e : Bool) (x : Nat) (W : List Nat) : List Nat := if e = true then x :: W else W
def sp_pE (e : Bool) (t : Nat) : List Nat := if e = true then [t] else []
def mo_t1 : List Nat → Prop
  | [] => True
  | x :: _ => x ≠ 33 ∧ x ≠ 38
def mo_t2 : List Nat → Prop
  | [] => True
  | x :: _ => x ≠ 33 ∧ x ≠ 38 ∧ x ≠ 124
theorem mo_t2.t1 {W : List Nat} (h : mo_t2 W) : mo_t1 W := by
  cases W with
  | nil => trivial
  | cons x W => exact ⟨h.1, h.2.1⟩
theorem sp_w1 {W : List Nat} (h : mo_t1 W) : sp_wW W = W ∧ sp_wE W = [] := by
  cases W with
  | nil => exact ⟨rfl, rfl⟩
  | cons x W => exact ⟨if_neg h.1, if_neg h.1⟩
theorem sp_s38 {W : List Nat} {e : Bool} (h : mo_t1 W) : sp_sW 38 (sp_pW e 38 W) = W ∧ sp_sE 38 (sp_pW e 38 W) = sp_pE e 6001 := by
  have h0 : sp_sW 38 W = W ∧ sp_sE 38 W = [] := by
    cases W with
    | nil => exact ⟨rfl, rfl⟩
    | cons x W => exact ⟨if_neg (fun z => z.elim h.2 (fun z => z.2 rfl)), if_neg (fun z => z.elim h.2 (fun z => z.2 rfl))⟩
  cases e with
  | false => exact h0
  | true =>
    constructor
    · show (if 38 = 38 ∨ (38 = 124 ∧ 38 ≠ 38) then sp_sW 38 W else 38 :: W) = W
      rw [if_pos (Or.inl rfl)]; exact h0.1
    · show (if 38 = 38 ∨ (38 = 124 ∧ 38 ≠ 38) then (if 38 = 38 then 6001 else 6002) :: sp_sE 38 W else []) = [6001]
      rw [if_pos (Or.inl rfl), if_pos rfl, h0.2]
theorem sp_s124 {W : List Nat} {e g : Bool} (h : mo_t2 W) : sp_sW 124 (sp_pW e 38 (sp_pW g 124 W)) = W ∧ sp_sE 124 (sp_pW e 38 (sp_pW g 124 W)) = sp_pE e 6001 ++ sp_pE g 6002 := by
  have h0 : sp_sW 124 W = W ∧ sp_sE 124 W = [] := by
    cases W with
    | nil => exact ⟨rfl, rfl⟩
    | cons x W => exact ⟨if_neg (fun z => z.elim h.2.1 (fun z => h.2.2 z.1)), if_neg (fun z => z.elim h.2.1 (fun z => h.2.2 z.1))⟩
  have h1 : sp_sW 124 (sp_pW g 124 W) = W ∧ sp_sE 124 (sp_pW g 124 W) = sp_pE g 6002 := by
    cases g with
    | false => exact h0
    | true =>
      constructor
      · show (if 124 = 38 ∨ (124 = 124 ∧ 124 ≠ 38) then sp_sW 124 W else 124 :: W) = W
        rw [if_pos (Or.inr ⟨rfl, by decide⟩)]; exact h0.1
      · show (if 124 = 38 ∨ (124 = 124 ∧ 124 ≠ 38) then (if 124 = 38 then 6001 else 6002) :: sp_sE 124 W else []) = [6002]
        rw [if_pos (Or.inr ⟨rfl, by decide⟩), if_neg (by decide), h0.2]
  cases e with
  | false => exact h1
  | true =>
    constructor
    · show (if 38 = 38 ∨ (38 = 124 ∧ 124 ≠ 38) then sp_sW 124 (sp_pW g 124 W) else 38 :: (sp_pW g 124 W)) = W
      rw [if_pos (Or.inl rfl)]; exact h1.1
    · show (if 38 = 38 ∨ (38 = 124 ∧ 124 ≠ 38) then (if 38 = 38 then 6001 else 6002) :: sp_sE 124 (sp_pW g 124 W) else []) = [6001] ++ sp_pE g 6002
      rw [if_pos (Or.inl rfl), if_pos rfl, h1.2]
      rfl
theorem sp_op38 {W : List Nat} {e : Bool} : sp_op (sp_pW e 38 W) = sp_op W := by
  cases e with
  | false => rfl
  | true => exact Nat.zero_add _
theorem sp_op124 {W : List Nat} {g : Bool} : sp_op (sp_pW g 124 W) = sp_op W := by
  cases g with
  | false => rfl
  | true => exact Nat.zero_add _
theorem mo_R.F {I I1 : Nat → Int32} {A A1 : Nat → Nat → Int32} {n s0 c f p : Nat} {W o : List Nat} (h : mo_R I A I1 A1 n s0 c f p W o) : mo_F I A I1 A1 s0 c p := ⟨h.1, h.2.1, h.2.2.1, h.2.2.2.2.2.2.2.2.1⟩
def mo_S0 (G : px_G) (D : Nat) (X E : px_H) (I : Nat → Int32) (A : Nat → Nat → Int32) (L : Nat → Nat → Int64) (Q : Option Value → px_H → Prop) (T : Nat → Nat) (n s0 c f : Nat) (q : Nat) : Prop := ∀ (p : Nat) (W o : List Nat) (I1 : Nat → Int32) (A1 : Nat → Nat → Int32), 4 * (n - p) + 1 ≤ q → sp_op W ≤ 4 → mo_R I A I1 A1 n s0 c f p W o → (∀ (p' : Nat) (l : List Nat) (I2 : Nat → Int32) (A2 : Nat → Nat → Int32), sp_P T n q 0 (sp_op W) p = (some l, p') → mo_R I A I2 A2 n s0 c f p' (sp_wW W) (o ++ l ++ sp_wE W) → px_W G D 0 0 m_Mo_takesE 22 [some (.ref X.length), some (.int (nI c)), some (.int 0), none] [] (HM X I2 A2 L E) Q) → (∀ (p' : Nat) (I2 : Nat → Int32) (A2 : Nat → Nat → Int32), sp_P T n q 0 (sp_op W) p = (none, p') → mo_F I A I2 A2 s0 c p' → Q (some (.int 0)) (HM X I2 A2 L E)) → px_W G D 0 0 m_Mo_takesE 22 [some (.ref X.length), some (.int (nI c)), some (.int 1), none] [] (HM X I1 A1 L E) Q
def mo_S1 (G : px_G) (D : Nat) (X E : px_H) (I : Nat → Int32) (A : Nat → Nat → Int32) (L : Nat → Nat → Int64) (Q : Option Value → px_H → Prop) (T : Nat → Nat) (n s0 c f : Nat) (q : Nat) : Prop := ∀ (p : Nat) (W o : List Nat) (I1 : Nat → Int32) (A1 : Nat → Nat → Int32), mo_t1 W → 4 * (n - p) + 2 ≤ q → sp_op W ≤ 4 → mo_R I A I1 A1 n s0 c f p W o → (∀ (p' : Nat) (l : List Nat) (e : Bool) (o' : List Nat) (I2 : Nat → Int32) (A2 : Nat → Nat → Int32), sp_P T n q 1 (sp_op W) p = (some l, p') → ¬ sp_is T n p' 38 → o' ++ sp_pE e 6001 = o ++ l → mo_R I A I2 A2 n s0 c f p' (sp_pW e 38 W) o' → px_W G D 0 0 m_Mo_takesE 22 [some (.ref X.length), some (.int (nI c)), some (.int 0), none] [] (HM X I2 A2 L E) Q) → (∀ (p' : Nat) (I2 : Nat → Int32) (A2 : Nat → Nat → Int32), sp_P T n q 1 (sp_op W) p = (none, p') → mo_F I A I2 A2 s0 c p' → Q (some (.int 0)) (HM X I2 A2 L E)) → px_W G D 0 0 m_Mo_takesE 22 [some (.ref X.length), some (.int (nI c)), some (.int 1), none] [] (HM X I1 A1 L E) Q
def mo_S2 (G : px_G) (D : Nat) (X E : px_H) (I : Nat → Int32) (A : Nat → Nat → Int32) (L : Nat → Nat → Int64) (Q : Option Value → px_H → Prop) (T : Nat → Nat) (n s0 c f : Nat) (q : Nat) : Prop := ∀ (p : Nat) (W o : List Nat) (I1 : Nat → Int32) (A1 : Nat → Nat → Int32), mo_t2 W → 4 * (n - p) + 3 ≤ q → sp_op W ≤ 4 → mo_R I A I1 A1 n s0 c f p W o → (∀ (p' : Nat) (l : List Nat) (e g : Bool) (o' : List Nat) (I2 : Nat → Int32) (A2 : Nat → Nat → Int32), sp_P T n q 2 (sp_op W) p = (some l, p') → ¬ sp_is T n p' 38 → ¬ sp_is T n p' 124 → o' ++ sp_pE e 6001 ++ sp_pE g 6002 = o ++ l → mo_R I A I2 A2 n s0 c f p' (sp_pW e 38 (sp_pW g 124 W)) o' → px_W G D 0 0 m_Mo_takesE 22 [some (.ref X.length), some (.int (nI c)), some (.int 0), none] [] (HM X I2 A2 L E) Q) → (∀ (p' : Nat) (I2 : Nat → Int32) (A2 : Nat → Nat → Int32), sp_P T n q 2 (sp_op W) p = (none, p') → mo_F I A I2 A2 s0 c p' → Q (some (.int 0)) (HM X I2 A2 L E)) → px_W G D 0 0 m_Mo_takesE 22 [some (.ref X.length), some (.int (nI c)), some (.int 1), none] [] (HM X I1 A1 L E) Q
def mo_S3 (G : px_G) (D : Nat) (X E : px_H) (I : Nat → Int32) (A : Nat → Nat → Int32) (L : Nat → Nat → Int64) (Q : Option Value → px_H → Prop) (T : Nat → Nat) (n s0 c f : Nat) (q : Nat) : Prop := ∀ (e : Bool) (p : Nat) (W o : List Nat) (I1 : Nat → Int32) (A1 : Nat → Nat → Int32), mo_t1 W → 4 * (n - p) + 1 ≤ q → sp_op W ≤ 4 → mo_R I A I1 A1 n s0 c f p (sp_pW e 38 W) o → (∀ (p' : Nat) (l : List Nat) (e' : Bool) (o' : List Nat) (I2 : Nat → Int32) (A2 : Nat → Nat → Int32), sp_P T n q 3 (sp_op W) p = (some l, p') → ¬ sp_is T n p' 38 → o' ++ sp_pE e' 6001 = o ++ sp_pE e 6001 ++ l → mo_R I A I2 A2 n s0 c f p' (sp_pW e' 38 W) o' → px_W G D 0 0 m_Mo_takesE 22 [some (.ref X.length), some (.int (nI c)), some (.int 0), none] [] (HM X I2 A2 L E) Q) → (∀ (p' : Nat) (I2 : Nat → Int32) (A2 : Nat → Nat → Int32), sp_P T n q 3 (sp_op W) p = (none, p') → mo_F I A I2 A2 s0 c p' → Q (some (.int 0)) (HM X I2 A2 L E)) → px_W G D 0 0 m_Mo_takesE 22 [some (.ref X.length), some (.int (nI c)), some (.int 0), none] [] (HM X I1 A1 L E) Q
def mo_S4 (G : px_G) (D : Nat) (X E : px_H) (I : Nat → Int32) (A : Nat → Nat → Int32) (L : Nat → Nat → Int64) (Q : Option Value → px_H → Prop) (T : Nat → Nat) (n s0 c f : Nat) (q : Nat) : Prop := ∀ (e g : Bool) (p : Nat) (W o : List Nat) (I1 : Nat → Int32) (A1 : Nat → Nat → Int32), mo_t2 W → 4 * (n - p) + 1 ≤ q → sp_op W ≤ 4 → ¬ sp_is T n p 38 → mo_R I A I1 A1 n s0 c f p (sp_pW e 38 (sp_pW g 124 W)) o → (∀ (p' : Nat) (l : List Nat) (e' g' : Bool) (o' : List Nat) (I2 : Nat → Int32) (A2 : Nat → Nat → Int32), sp_P T n q 4 (sp_op W) p = (some l, p') → ¬ sp_is T n p' 38 → ¬ sp_is T n p' 124 → o' ++ sp_pE e' 6001 ++ sp_pE g' 6002 = o ++ sp_pE e 6001 ++ sp_pE g 6002 ++ l → mo_R I A I2 A2 n s0 c f p' (sp_pW e' 38 (sp_pW g' 124 W)) o' → px_W G D 0 0 m_Mo_takesE 22 [some (.ref X.length), some (.int (nI c)), some (.int 0), none] [] (HM X I2 A2 L E) Q) → (∀ (p' : Nat) (I2 : Nat → Int32) (A2 : Nat → Nat → Int32), sp_P T n q 4 (sp_op W) p = (none, p') → mo_F I A I2 A2 s0 c p' → Q (some (.int 0)) (HM X I2 A2 L E)) → px_W G D 0 0 m_Mo_takesE 22 [some (.ref X.length), some (.int (nI c)), some (.int 0), none] [] (HM X I1 A1 L E) Q
section MOL
variable {G : px_G} {D : Nat} {X E : px_H} {I : Nat → Int32} {A : Nat → Nat → Int32} {L : Nat → Nat → Int64} {Q : Option Value → px_H → Prop}
set_option maxRecDepth 4000 in
theorem l_Mo_sep {T : Nat → Nat} {n s0 c f : Nat} {I1 : Nat → Int32} {A1 : Nat → Nat → Int32} {p : Nat} {W o : List Nat} {V : List Nat} {x : Nat} (hD : 4 ≤ D) (hf : f ≤ 5) (hn : n ≤ 100) (hs0 : 100 * f ≤ s0) (hx : mo_tx I A T n) (hc : c < 60) (hx2 : x = 38 ∨ x = 124) (hi : sp_is T n p x) (hV : sp_sW x V = W) (hR : mo_R I A I1 A1 n s0 c f p V o) (k : ∀ (I2 : Nat → Int32) (A2 : Nat → Nat → Int32), mo_R I A I2 A2 n s0 c f (p + 1) (x :: W) (o ++ sp_sE x V) → px_W G D 0 0 m_Mo_takesE 22 [some (.ref X.length), some (.int (nI c)), some (.int 1), none] [] (HM X I2 A2 L E) Q) : px_W G D 0 0 m_Mo_takesE 22 [some (.ref X.length), some (.int (nI c)), some (.int 0), none] [] (HM X I1 A1 L E) Q := by
  have hx128 : x < 128 := by omega
  have hx1 : mo_tx I1 A1 T n := hx.ms hR.1 (by decide) (by decide)
  have h14 := hR.2.2.1
  have hb : sp_nx T n p = nI x := (sp_nx_is hx1 hx128).mpr hi
  have hpn : p < n := hi.1
  refine wp_aload_n d_Mo_takesE_22 rfl rfl rfl ?_
  refine wp_callV (r := (R_12, T_12, 70)) (M' := m_Mo_next) (as := []) (D' := D - 1) (C1 := 0) (C2 := 0) (S1 := 0) (S2 := 0) d_Mo_takesE_23 rfl w_1253 w_1255 w_21 hm_0 k_Mo_next (Nat.le_of_ble_eq_true rfl) rfl (Nat.le_of_ble_eq_true rfl) (by omega) rfl rfl ?_
  refine c_Mo_next (by omega) hx1 h14 (by omega) ?_
  rw [hb]
  refine wp_istore_n (ls' := [_, _, _, _]) d_Mo_takesE_26 rfl (by decide) rfl ?_
  refine wp_iload_n d_Mo_takesE_27 rfl rfl ?_
  refine wp_if_eq (t := 110) d_Mo_takesE_28 (by decide) (fun c_28 => ?_) (fun c_28 => (absurd c_28 (by decide)))
  refine wp_iload_n d_Mo_takesE_110 rfl rfl ?_
  refine wp_bipush (v := 38) d_Mo_takesE_111 (by decide) ?_
  refine wp_icmp_eq (t := 122) d_Mo_takesE_113 (by decide) (fun c_113 => ?_) (fun c_113 => ?_)
  · skip
    refine wp_aload_n d_Mo_takesE_122 rfl rfl rfl ?_
    refine wp_iload_n d_Mo_takesE_123 rfl rfl ?_
    refine wp_callV (r := (R_12, T_12, 70)) (M' := m_Mo_settle) (as := [_]) (D' := D - 1) (C1 := 0) (C2 := 0) (S1 := 0) (S2 := 0) d_Mo_takesE_124 rfl w_1297 w_1299 w_32 hm_0 k_Mo_settle (Nat.le_of_ble_eq_true rfl) rfl (Nat.le_of_ble_eq_true rfl) (by omega) rfl rfl ?_
    refine c_Mo_settle (by omega) hf hn hs0 hx128 V o _ _ hR (fun I2 A2 hR2 => ?_)
    rw [hV] at hR2
    obtain ⟨hm, h21, h14, hpn2, h24, h25, h26, hst, hs1, ho, hle⟩ := hR2
    refine wp_aload_n d_Mo_takesE_127 rfl rfl rfl ?_
    refine gM_23 rfl d_Mo_takesE_128 ?_
    refine wp_aload_n d_Mo_takesE_131 rfl rfl rfl ?_
    refine gM_25 rfl d_Mo_takesE_132 ?_
    refine wp_iload_n d_Mo_takesE_135 rfl rfl ?_
    rw [h25]
    refine sM_23 d_Mo_takesE_136 (vp_in_nI (by omega) (by decide)) ?_
    refine wp_aload_n d_Mo_takesE_137 rfl rfl rfl ?_
    refine wp_dup d_Mo_takesE_138 rfl ?_
    refine gM_25 rfl d_Mo_takesE_139 ?_
    refine wp_iconst (v := 1) d_Mo_takesE_142 rfl ?_
    refine wp_iadd d_Mo_takesE_143 ?_
    refine pM_25 rfl d_Mo_takesE_144 ?_
    refine wp_iconst (v := 1) d_Mo_takesE_147 rfl ?_
    refine wp_istore_n (ls' := [_, _, _, _]) d_Mo_takesE_148 rfl (by decide) rfl ?_
    refine wp_aload_n d_Mo_takesE_149 rfl rfl rfl ?_
    refine wp_dup d_Mo_takesE_150 rfl ?_
    refine gM_14 rfl d_Mo_takesE_151 ?_
    refine wp_iconst (v := 1) d_Mo_takesE_154 rfl ?_
    refine wp_iadd d_Mo_takesE_155 ?_
    refine pM_14 rfl d_Mo_takesE_156 ?_
    refine wp_goto (t := 22) d_Mo_takesE_159 (by decide) ?_
    refine wp_less (ls' := [some (.ref X.length), some (.int _), some (.int _), none]) ⟨rfl, rfl, rfl, trivial⟩ ?_
    rw [nI_clamp (by omega)]
    refine k _ _ ⟨((hm.a 23 (by decide) _).i 25 (by decide) _).i 14 (by decide) _, h21, ?_, by omega, h24, ?_, ?_, hst.push rfl hx128, hs1, ho, ?_⟩
    · refine (show I2 14 + 1 = nI (p + 1) from ?_)
      rw [h14, nI_1]
    · refine (show I2 25 + 1 = nI (W.length + 1) from ?_)
      rw [h25, nI_1]
    · refine (show I2 26 = nI ((if x = 33 ∨ x = 40 then 1 else 0) + sp_op W) from ?_)
      rw [if_neg (by omega), Nat.zero_add]; exact h26
    · refine (show s0 + (o ++ sp_sE x V).length + (W.length + 1) ≤ 100 * f + (p + 1) from ?_)
      omega
  · skip
    refine wp_iload_n d_Mo_takesE_116 rfl rfl ?_
    refine wp_bipush (v := 124) d_Mo_takesE_117 (by decide) ?_
    refine wp_icmp_ne (t := 162) d_Mo_takesE_119 (by decide) (fun c_119 => ?_) (fun c_119 => ?_)
    · skip
      exfalso
      rcases hx2 with h | h
      · exact c_113 (by rw [h]; rfl)
      · exact c_119 (by rw [h]; rfl)
    · skip
      refine wp_aload_n d_Mo_takesE_122 rfl rfl rfl ?_
      refine wp_iload_n d_Mo_takesE_123 rfl rfl ?_
      refine wp_callV (r := (R_12, T_12, 70)) (M' := m_Mo_settle) (as := [_]) (D' := D - 1) (C1 := 0) (C2 := 0) (S1 := 0) (S2 := 0) d_Mo_takesE_124 rfl w_1297 w_1299 w_32 hm_0 k_Mo_settle (Nat.le_of_ble_eq_true rfl) rfl (Nat.le_of_ble_eq_true rfl) (by omega) rfl rfl ?_
      refine c_Mo_settle (by omega) hf hn hs0 hx128 V o _ _ hR (fun I2 A2 hR2 => ?_)
      rw [hV] at hR2
      obtain ⟨hm, h21, h14, hpn2, h24, h25, h26, hst, hs1, ho, hle⟩ := hR2
      refine wp_aload_n d_Mo_takesE_127 rfl rfl rfl ?_
      refine gM_23 rfl d_Mo_takesE_128 ?_
      refine wp_aload_n d_Mo_takesE_131 rfl rfl rfl ?_
      refine gM_25 rfl d_Mo_takesE_132 ?_
      refine wp_iload_n d_Mo_takesE_135 rfl rfl ?_
      rw [h25]
      refine sM_23 d_Mo_takesE_136 (vp_in_nI (by omega) (by decide)) ?_
      refine wp_aload_n d_Mo_takesE_137 rfl rfl rfl ?_
      refine wp_dup d_Mo_takesE_138 rfl ?_
      refine gM_25 rfl d_Mo_takesE_139 ?_
      refine wp_iconst (v := 1) d_Mo_takesE_142 rfl ?_
      refine wp_iadd d_Mo_takesE_143 ?_
      refine pM_25 rfl d_Mo_takesE_144 ?_
      refine wp_iconst (v := 1) d_Mo_takesE_147 rfl ?_
      refine wp_istore_n (ls' := [_, _, _, _]) d_Mo_takesE_148 rfl (by decide) rfl ?_
      refine wp_aload_n d_Mo_takesE_149 rfl rfl rfl ?_
      refine wp_dup d_Mo_takesE_150 rfl ?_
      refine gM_14 rfl d_Mo_takesE_151 ?_
      refine wp_iconst (v := 1) d_Mo_takesE_154 rfl ?_
      refine wp_iadd d_Mo_takesE_155 ?_
      refine pM_14 rfl d_Mo_takesE_156 ?_
      refine wp_goto (t := 22) d_Mo_takesE_159 (by decide) ?_
      refine wp_less (ls' := [some (.ref X.length), some (.int _), some (.int _), none]) ⟨rfl, rfl, rfl, trivial⟩ ?_
      rw [nI_clamp (by omega)]
      refine k _ _ ⟨((hm.a 23 (by decide) _).i 25 (by decide) _).i 14 (by decide) _, h21, ?_, by omega, h24, ?_, ?_, hst.push rfl hx128, hs1, ho, ?_⟩
      · refine (show I2 14 + 1 = nI (p + 1) from ?_)
        rw [h14, nI_1]
      · refine (show I2 25 + 1 = nI (W.length + 1) from ?_)
        rw [h25, nI_1]
      · refine (show I2 26 = nI ((if x = 33 ∨ x = 40 then 1 else 0) + sp_op W) from ?_)
        rw [if_neg (by omega), Nat.zero_add]; exact h26
      · refine (show s0 + (o ++ sp_sE x V).length + (W.length + 1) ≤ 100 * f + (p + 1) from ?_)
        omega
set_option maxRecDepth 4000 in
theorem l_Mo_fin {T : Nat → Nat} {n s0 c f : Nat} {I1 : Nat → Int32} {A1 : Nat → Nat → Int32} {p : Nat} {W o : List Nat} {e g : Bool} (hD : 4 ≤ D) (hf : f ≤ 5) (hn : n ≤ 100) (hs0 : 100 * f ≤ s0) (hx : mo_tx I A T n) (hc : c < 60) (h2 : mo_t2 W) (h38 : ¬ sp_is T n p 38) (h124 : ¬ sp_is T n p 124) (hR : mo_R I A I1 A1 n s0 c f p (sp_pW e 38 (sp_pW g 124 W)) o) (k : ∀ (I2 : Nat → Int32) (A2 : Nat → Nat → Int32), mo_R I A I2 A2 n s0 c f p W (o ++ sp_pE e 6001 ++ sp_pE g 6002) → A2 21 c = nI (s0 + (o ++ sp_pE e 6001 ++ sp_pE g 6002).length) → px_W G D 0 0 m_Mo_takesE 178 [some (.ref X.length), some (.int (nI c)), some (.int 0), some (.int (sp_nx T n p))] [] (HM X I2 A2 L E) Q) : px_W G D 0 0 m_Mo_takesE 22 [some (.ref X.length), some (.int (nI c)), some (.int 0), none] [] (HM X I1 A1 L E) Q := by
  have hx1 : mo_tx I1 A1 T n := hx.ms hR.1 (by decide) (by decide)
  have h14 := hR.2.2.1
  have hpn := hR.2.2.2.1
  have h38b : ¬ sp_nx T n p = 38 := fun z => h38 ((sp_nx_is (c := 38) hx1 (by decide)).mp z)
  have h124b : ¬ sp_nx T n p = 124 := fun z => h124 ((sp_nx_is (c := 124) hx1 (by decide)).mp z)
  have hs := sp_s124 (e := e) (g := g) h2
  refine wp_aload_n d_Mo_takesE_22 rfl rfl rfl ?_
  refine wp_callV (r := (R_12, T_12, 70)) (M' := m_Mo_next) (as := []) (D' := D - 1) (C1 := 0) (C2 := 0) (S1 := 0) (S2 := 0) d_Mo_takesE_23 rfl w_1253 w_1255 w_21 hm_0 k_Mo_next (Nat.le_of_ble_eq_true rfl) rfl (Nat.le_of_ble_eq_true rfl) (by omega) rfl rfl ?_
  refine c_Mo_next (by omega) hx1 h14 (by omega) ?_
  refine wp_istore_n (ls' := [_, _, _, _]) d_Mo_takesE_26 rfl (by decide) rfl ?_
  refine wp_iload_n d_Mo_takesE_27 rfl rfl ?_
  refine wp_if_eq (t := 110) d_Mo_takesE_28 (by decide) (fun c_28 => ?_) (fun c_28 => (absurd c_28 (by decide)))
  refine wp_iload_n d_Mo_takesE_110 rfl rfl ?_
  refine wp_bipush (v := 38) d_Mo_takesE_111 (by decide) ?_
  refine wp_icmp_eq (t := 122) d_Mo_takesE_113 (by decide) (fun c_113 => absurd c_113 h38b) (fun c_113 => ?_)
  refine wp_iload_n d_Mo_takesE_116 rfl rfl ?_
  refine wp_bipush (v := 124) d_Mo_takesE_117 (by decide) ?_
  refine wp_icmp_ne (t := 162) d_Mo_takesE_119 (by decide) (fun c_119 => ?_) (fun c_119 => ?_)
  · skip
    refine wp_aload_n d_Mo_takesE_162 rfl rfl rfl ?_
    refine wp_bipush (v := (nI 124)) d_Mo_takesE_163 (by decide) ?_
    refine wp_callV (r := (R_12, T_12, 70)) (M' := m_Mo_settle) (as := [_]) (D' := D - 1) (C1 := 0) (C2 := 0) (S1 := 0) (S2 := 0) d_Mo_takesE_165 rfl w_1297 w_1299 w_32 hm_0 k_Mo_settle (Nat.le_of_ble_eq_true rfl) rfl (Nat.le_of_ble_eq_true rfl) (by omega) rfl rfl ?_
    refine c_Mo_settle (by omega) (s := 124) hf hn hs0 (by decide) _ o _ _ hR (fun I2 A2 hR2 => ?_)
    rw [hs.1, hs.2, ← List.append_assoc] at hR2
    obtain ⟨hm, h21, h14, hpn2, h24, h25, h26, hst, hs1, ho, hle⟩ := hR2
    refine wp_aload_n d_Mo_takesE_168 rfl rfl rfl ?_
    refine gM_21 rfl d_Mo_takesE_169 ?_
    refine wp_iload_n d_Mo_takesE_172 rfl rfl ?_
    refine wp_aload_n d_Mo_takesE_173 rfl rfl rfl ?_
    refine gM_24 rfl d_Mo_takesE_174 ?_
    refine sM_21 d_Mo_takesE_177 (vp_in_nI (by omega) (by decide)) ?_
    rw [nI_clamp (by omega)]
    refine k _ _ ⟨hm.a 21 (by decide) _, fun j hj => ?_, h14, hpn2, h24, h25, h26, hst, hs1, ho, hle⟩ ?_
    · refine (show (if j = c then I2 24 else A2 21 j) = A 21 j from ?_)
      rw [if_neg hj]; exact h21 j hj
    · refine (show (if c = c then I2 24 else A2 21 c) = _ from ?_)
      rw [if_pos rfl]; exact h24
  · skip
    exact absurd (by assumption) h124b
set_option maxRecDepth 4000 in
theorem l_Mo_S0 {T : Nat → Nat} {n s0 c f : Nat} {q : Nat} (hD : 4 ≤ D) (hf : f ≤ 5) (hn : n ≤ 100) (hs0 : 100 * f ≤ s0) (hx : mo_tx I A T n) (hc : c < 60) (ih0 : mo_S0 G D X E I A L Q T n s0 c f q) (ih2 : mo_S2 G D X E I A L Q T n s0 c f q) : mo_S0 G D X E I A L Q T n s0 c f (q + 1) := by
  intro p W o I1 A1 hq hop4 hR k kf
  have hR0 := hR
  obtain ⟨hm, h21, h14, hpn, h24, h25, h26, hst, hs1, ho, hle⟩ := hR
  have hx1 : mo_tx I1 A1 T n := hx.ms hm (by decide) (by decide)
  have hP : sp_P T n (q + 1) 0 (sp_op W) p = (if sp_is T n p 33 then (if 4 ≤ sp_op W then (none, p) else match sp_P T n q 0 (sp_op W + 1) (p + 1) with
        | (some l, p') => (some (l ++ [6000]), p')
        | (none, p') => (none, p'))
      else if sp_is T n p 40 then (if 4 ≤ sp_op W then (none, p) else match sp_P T n q 2 (sp_op W + 1) (p + 1) with
        | (some l, p') => if sp_is T n p' 41 then (some l, p' + 1) else (none, p')
        | (none, p') => (none, p'))
      else match sp_test T n p with
        | (some t, p') => (some [t], p')
        | (none, p') => (none, p')) := by rw [sp_P]; exact if_pos rfl
  have hop : W.length ≤ p := by omega
  have hpush : ∀ x, (x = 33 ∨ x = 40) → sp_is T n p x → mo_R I A (upd (upd (upd I1 26 (nI (sp_op W + 1))) 25 (nI (W.length + 1))) 14 (nI (p + 1))) (va_up A1 23 (upd (A1 23) W.length (nI x))) n s0 c f (p + 1) (x :: W) o := by
    intro x hx2 hi
    refine ⟨(((hm.i 26 (by decide) _).a 23 (by decide) _).i 25 (by decide) _).i 14 (by decide) _, h21, rfl, hi.1, h24, rfl, ?_, hst.push rfl (by omega), hs1, ho, ?_⟩
    · refine (show nI (sp_op W + 1) = nI ((if x = 33 ∨ x = 40 then 1 else 0) + sp_op W) from ?_)
      rw [if_pos hx2, Nat.add_comm]
    · refine (show s0 + o.length + (W.length + 1) ≤ 100 * f + (p + 1) from ?_)
      omega
  refine wp_aload_n d_Mo_takesE_22 rfl rfl rfl ?_
  refine wp_callV (r := (R_12, T_12, 70)) (M' := m_Mo_next) (as := []) (D' := D - 1) (C1 := 0) (C2 := 0) (S1 := 0) (S2 := 0) d_Mo_takesE_23 rfl w_1253 w_1255 w_21 hm_0 k_Mo_next (Nat.le_of_ble_eq_true rfl) rfl (Nat.le_of_ble_eq_true rfl) (by omega) rfl rfl ?_
  refine c_Mo_next (by omega) hx1 h14 (by omega) ?_
  refine wp_istore_n (ls' := [_, _, _, _]) d_Mo_takesE_26 rfl (by decide) rfl ?_
  refine wp_iload_n d_Mo_takesE_27 rfl rfl ?_
  refine wp_if_eq (t := 110) d_Mo_takesE_28 (by decide) (fun c_28 => (absurd c_28 (by decide))) (fun c_28 => ?_)
  refine wp_iload_n d_Mo_takesE_31 rfl rfl ?_
  refine wp_bipush (v := 33) d_Mo_takesE_32 (by decide) ?_
  refine wp_icmp_eq (t := 43) d_Mo_takesE_34 (by decide) (fun c_34 => ?_) (fun c_34 => ?_)
  · skip
    refine wp_aload_n d_Mo_takesE_43 rfl rfl rfl ?_
    refine gM_26 rfl d_Mo_takesE_44 ?_
    refine wp_iconst (v := 4) d_Mo_takesE_47 rfl ?_
    rw [h26]
    refine wp_icmp_ne (t := 53) d_Mo_takesE_48 (by decide) (fun c_48 => ?_) (fun c_48 => ?_)
    · skip
      have hd4 : ¬ 4 ≤ sp_op W := by
        have hd5 : ¬ sp_op W = 4 := fun z => c_48 (by rw [z]; rfl)
        have hle4 := hop4
        omega
      refine wp_aload_n d_Mo_takesE_53 rfl rfl rfl ?_
      refine wp_dup d_Mo_takesE_54 rfl ?_
      refine gM_26 rfl d_Mo_takesE_55 ?_
      refine wp_iconst (v := 1) d_Mo_takesE_58 rfl ?_
      refine wp_iadd d_Mo_takesE_59 ?_
      rw [h26, nI_1]
      refine pM_26 rfl d_Mo_takesE_60 ?_
      refine wp_aload_n d_Mo_takesE_63 rfl rfl rfl ?_
      refine gM_23 rfl d_Mo_takesE_64 ?_
      refine wp_aload_n d_Mo_takesE_67 rfl rfl rfl ?_
      refine gM_25 rfl d_Mo_takesE_68 ?_
      refine wp_iload_n d_Mo_takesE_71 rfl rfl ?_
      rw [show upd I1 26 (nI (sp_op W + 1)) 25 = nI W.length from h25]
      refine sM_23 d_Mo_takesE_72 (vp_in_nI (by omega) (by decide)) ?_
      refine wp_aload_n d_Mo_takesE_73 rfl rfl rfl ?_
      refine wp_dup d_Mo_takesE_74 rfl ?_
      refine gM_25 rfl d_Mo_takesE_75 ?_
      refine wp_iconst (v := 1) d_Mo_takesE_78 rfl ?_
      refine wp_iadd d_Mo_takesE_79 ?_
      rw [show upd I1 26 (nI (sp_op W + 1)) 25 = nI W.length from h25, nI_1]
      refine pM_25 rfl d_Mo_takesE_80 ?_
      refine wp_aload_n d_Mo_takesE_83 rfl rfl rfl ?_
      refine wp_dup d_Mo_takesE_84 rfl ?_
      refine gM_14 rfl d_Mo_takesE_85 ?_
      refine wp_iconst (v := 1) d_Mo_takesE_88 rfl ?_
      refine wp_iadd d_Mo_takesE_89 ?_
      refine pM_14 rfl d_Mo_takesE_90 ?_
      refine wp_goto (t := 22) d_Mo_takesE_93 (by decide) ?_
      refine wp_less (ls' := [some (.ref X.length), some (.int _), some (.int _), none]) ⟨rfl, rfl, rfl, trivial⟩ ?_
      rw [nI_clamp (by omega), show upd (upd I1 26 (nI (sp_op W + 1))) 25 (nI (W.length + 1)) 14 = nI p from h14, nI_1]
      first
        | (have hi : sp_is T n p 33 := (sp_nx_is (c := 33) hx1 (by decide)).mp c_34
           have hR1 := hpush 33 (Or.inl rfl) hi
           rw [if_pos hi, if_neg hd4] at hP
           have hop1 : sp_op (33 :: W) = sp_op W + 1 := Nat.add_comm 1 _
           rw [show sp_nx T n p = nI 33 from c_34]
           refine ih0 (p + 1) (33 :: W) o _ _ (by have := hi.1; omega) (by rw [hop1]; omega) hR1 (fun p' l I2 A2 h hR2 => ?_) (fun p' I2 A2 h hF => ?_)
           · rw [hop1] at h
             simp only [h] at hP
             refine k p' (l ++ [6000]) I2 A2 hP ?_
             rw [show sp_wW (33 :: W) = sp_wW W from if_pos rfl, show sp_wE (33 :: W) = 6000 :: sp_wE W from if_pos rfl] at hR2
             rw [show o ++ (l ++ [6000]) ++ sp_wE W = o ++ l ++ 6000 :: sp_wE W from by simp only [List.append_assoc, List.cons_append, List.nil_append]]
             exact hR2
           · rw [hop1] at h
             simp only [h] at hP
             exact kf p' I2 A2 hP hF)
        | (have hi : sp_is T n p 40 := (sp_nx_is (c := 40) hx1 (by decide)).mp c_40
           have h33 : ¬ sp_is T n p 33 := fun z => by have := z.2; have := hi.2; omega
           have hR1 := hpush 40 (Or.inr rfl) hi
           rw [if_neg h33, if_pos hi, if_neg hd4] at hP
           have hop1 : sp_op (40 :: W) = sp_op W + 1 := Nat.add_comm 1 _
           rw [show sp_nx T n p = nI 40 from c_40]
           refine ih2 (p + 1) (40 :: W) o _ _ ⟨by decide, by decide, by decide⟩ (by have := hi.1; omega) (by rw [hop1]; omega) hR1 (fun p' l e g o' I2 A2 h h38 h124 hoo hR2 => ?_) (fun p' I2 A2 h hF => ?_)
           · rw [hop1] at h
             simp only [h] at hP
             refine l_Mo_fin (W := 40 :: W) hD hf hn hs0 hx hc ⟨by decide, by decide, by decide⟩ h38 h124 hR2 (fun I3 A3 hR3 _ => ?_)
             rw [hoo] at hR3
             clear hR2 hR1 hpush hR0 hm h21 h14 hpn h24 h25 h26 hst hs1 ho hle hx1
             have hR0 := hR3
             obtain ⟨hm, h21, h14, hpn, h24, h25, h26, hst, hs1, ho, hle⟩ := hR3
             have hx1 : mo_tx I3 A3 T n := hx.ms hm (by decide) (by decide)
             refine wp_aload_n d_Mo_takesE_178 rfl rfl rfl ?_
             refine gM_25 rfl d_Mo_takesE_179 ?_
             rw [h25]
             refine wp_if_ne (t := 187) d_Mo_takesE_182 (by decide) (fun c_182 => ?_) (fun c_182 => ?_)
             · skip
               refine wp_iload_n d_Mo_takesE_187 rfl rfl ?_
               refine wp_bipush (v := 41) d_Mo_takesE_188 (by decide) ?_
               refine wp_icmp_eq (t := 195) d_Mo_takesE_190 (by decide) (fun c_190 => ?_) (fun c_190 => ?_)
               · skip
                 have h41 : sp_is T n p' 41 := (sp_nx_is (c := 41) hx1 (by decide)).mp c_190
                 rw [if_pos h41] at hP
                 have hlc : (40 :: W).length = W.length + 1 := rfl
                 have hRw : mo_R I A (upd (upd (upd I3 25 (I3 25 - 1)) 26 (I3 26 - 1)) 14 (I3 14 + 1)) A3 n s0 c f (p' + 1) W (o ++ l) := by
                   refine ⟨((hm.i 25 (by decide) _).i 26 (by decide) _).i 14 (by decide) _, h21, ?_, h41.1, h24, ?_, ?_, hst.2.2, hs1, ho, by omega⟩
                   · refine (show I3 14 + 1 = nI (p' + 1) from ?_)
                     rw [h14, nI_1]
                   · refine (show I3 25 - 1 = nI W.length from ?_)
                     rw [show I3 25 = nI (W.length + 1) from h25]; exact nI_pred _
                   · refine (show I3 26 - 1 = nI (sp_op W) from ?_)
                     rw [show I3 26 = nI (sp_op W + 1) from h26.trans (congrArg nI hop1)]; exact nI_pred _
                 refine wp_aload_n d_Mo_takesE_195 rfl rfl rfl ?_
                 refine wp_dup d_Mo_takesE_196 rfl ?_
                 refine gM_25 rfl d_Mo_takesE_197 ?_
                 refine wp_iconst (v := 1) d_Mo_takesE_200 rfl ?_
                 refine wp_isub d_Mo_takesE_201 ?_
                 refine pM_25 rfl d_Mo_takesE_202 ?_
                 refine wp_aload_n d_Mo_takesE_205 rfl rfl rfl ?_
                 refine wp_dup d_Mo_takesE_206 rfl ?_
                 refine gM_26 rfl d_Mo_takesE_207 ?_
                 refine wp_iconst (v := 1) d_Mo_takesE_210 rfl ?_
                 refine wp_isub d_Mo_takesE_211 ?_
                 refine pM_26 rfl d_Mo_takesE_212 ?_
                 refine wp_aload_n d_Mo_takesE_215 rfl rfl rfl ?_
                 refine wp_dup d_Mo_takesE_216 rfl ?_
                 refine gM_14 rfl d_Mo_takesE_217 ?_
                 refine wp_iconst (v := 1) d_Mo_takesE_220 rfl ?_
                 refine wp_iadd d_Mo_takesE_221 ?_
                 refine pM_14 rfl d_Mo_takesE_222 ?_
                 refine wp_aload_n d_Mo_takesE_225 rfl rfl rfl ?_
                 refine wp_callV (r := (R_12, T_12, 70)) (M' := m_Mo_whole) (as := []) (D' := D - 1) (C1 := 0) (C2 := 0) (S1 := 0) (S2 := 0) d_Mo_takesE_226 rfl w_1293 w_1295 w_31 hm_0 k_Mo_whole (Nat.le_of_ble_eq_true rfl) rfl (Nat.le_of_ble_eq_true rfl) (by omega) rfl rfl ?_
                 refine c_Mo_whole (by omega) hf hn hs0 W (o ++ l) _ _ hRw (fun I4 A4 hR4 => ?_)
                 refine wp_goto (t := 22) d_Mo_takesE_229 (by decide) ?_
                 refine wp_less (ls' := [some (.ref X.length), some (.int _), some (.int _), none]) ⟨rfl, rfl, rfl, trivial⟩ ?_
                 exact k (p' + 1) l I4 A4 hP hR4
               · skip
                 refine wp_iconst (v := 0) d_Mo_takesE_193 rfl ?_
                 refine wp_ireturn d_Mo_takesE_194 rfl rfl ?_
                 have h41 : ¬ sp_is T n p' 41 := fun z => c_190 ((sp_nx_is (c := 41) hx1 (by decide)).mpr z)
                 rw [if_neg h41] at hP
                 exact kf p' _ _ hP hR0.F
             · skip
               refine wp_iconst (v := 1) d_Mo_takesE_185 rfl ?_
               refine wp_ireturn d_Mo_takesE_186 rfl rfl ?_
               exact absurd (by first | exact c_182 | exact Decidable.of_not_not c_182) (nI_ne0 (Nat.succ_pos _) (by have hlc : (40 :: W).length = W.length + 1 := rfl; omega))
           · rw [hop1] at h
             simp only [h] at hP
             exact kf p' I2 A2 hP hF)
    · skip
      refine wp_iconst (v := 0) d_Mo_takesE_51 rfl ?_
      refine wp_ireturn d_Mo_takesE_52 rfl rfl ?_
      have hd4 : 4 ≤ sp_op W := by have := (nI_eq (b := 4) (by omega) (by decide)).mp c_48; omega
      first
        | (have hi : sp_is T n p 33 := (sp_nx_is (c := 33) hx1 (by decide)).mp c_34
           rw [if_pos hi, if_pos hd4] at hP
           exact kf p _ _ hP hR0.F)
        | (have hi : sp_is T n p 40 := (sp_nx_is (c := 40) hx1 (by decide)).mp c_40
           have h33 : ¬ sp_is T n p 33 := fun z => by have := z.2; have := hi.2; omega
           rw [if_neg h33, if_pos hi, if_pos hd4] at hP
           exact kf p _ _ hP hR0.F)
  · skip
    refine wp_iload_n d_Mo_takesE_37 rfl rfl ?_
    refine wp_bipush (v := 40) d_Mo_takesE_38 (by decide) ?_
    refine wp_icmp_ne (t := 96) d_Mo_takesE_40 (by decide) (fun c_40 => ?_) (fun c_40 => ?_)
    · skip
      refine wp_aload_n d_Mo_takesE_96 rfl rfl rfl ?_
      refine wp_callV (r := (R_12, T_12, 70)) (M' := m_Mo_takesTest) (as := []) (D' := D - 1) (C1 := 0) (C2 := 0) (S1 := 0) (S2 := 0) d_Mo_takesE_97 rfl w_1281 w_1283 w_28 hm_0 k_Mo_takesTest (Nat.le_of_ble_eq_true rfl) rfl (Nat.le_of_ble_eq_true rfl) (by omega) rfl rfl ?_
      refine c_Mo_takesTest (by omega) hf hn hs0 hx hR0 (fun t p' ht I2 A2 hR2 => ?_) (fun p' ht I2 A2 hF => ?_)
      · skip
        refine wp_if_eq (t := 108) d_Mo_takesE_100 (by decide) (fun c_100 => (absurd c_100 (by decide))) (fun c_100 => ?_)
        refine wp_iconst (v := 0) d_Mo_takesE_103 rfl ?_
        refine wp_istore_n (ls' := [_, _, _, _]) d_Mo_takesE_104 rfl (by decide) rfl ?_
        refine wp_goto (t := 22) d_Mo_takesE_105 (by decide) ?_
        refine wp_less (ls' := [some (.ref X.length), some (.int _), some (.int _), none]) ⟨rfl, rfl, rfl, trivial⟩ ?_
        have h33 : ¬ sp_is T n p 33 := fun z => c_34 ((sp_nx_is (c := 33) hx1 (by decide)).mpr z)
        have h40 : ¬ sp_is T n p 40 := fun z => c_40 ((sp_nx_is (c := 40) hx1 (by decide)).mpr z)
        rw [if_neg h33, if_neg h40] at hP
        simp only [ht] at hP
        exact k p' [t] I2 A2 hP hR2
      · skip
        refine wp_if_eq (t := 108) d_Mo_takesE_100 (by decide) (fun c_100 => ?_) (fun c_100 => (absurd c_100 (by decide)))
        refine wp_iconst (v := 0) d_Mo_takesE_108 rfl ?_
        refine wp_ireturn d_Mo_takesE_109 rfl rfl ?_
        have h33 : ¬ sp_is T n p 33 := fun z => c_34 ((sp_nx_is (c := 33) hx1 (by decide)).mpr z)
        have h40 : ¬ sp_is T n p 40 := fun z => c_40 ((sp_nx_is (c := 40) hx1 (by decide)).mpr z)
        rw [if_neg h33, if_neg h40] at hP
        simp only [ht] at hP
        exact kf p' _ _ hP hF
    · skip
      refine wp_aload_n d_Mo_takesE_43 rfl rfl rfl ?_
      refine gM_26 rfl d_Mo_takesE_44 ?_
      refine wp_iconst (v := 4) d_Mo_takesE_47 rfl ?_
      rw [h26]
      refine wp_icmp_ne (t := 53) d_Mo_takesE_48 (by decide) (fun c_48 => ?_) (fun c_48 => ?_)
      · skip
        have hd4 : ¬ 4 ≤ sp_op W := by
          have hd5 : ¬ sp_op W = 4 := fun z => c_48 (by rw [z]; rfl)
          have hle4 := hop4
          omega
        refine wp_aload_n d_Mo_takesE_53 rfl rfl rfl ?_
        refine wp_dup d_Mo_takesE_54 rfl ?_
        refine gM_26 rfl d_Mo_takesE_55 ?_
        refine wp_iconst (v := 1) d_Mo_takesE_58 rfl ?_
        refine wp_iadd d_Mo_takesE_59 ?_
        rw [h26, nI_1]
        refine pM_26 rfl d_Mo_takesE_60 ?_
        refine wp_aload_n d_Mo_takesE_63 rfl rfl rfl ?_
        refine gM_23 rfl d_Mo_takesE_64 ?_
        refine wp_aload_n d_Mo_takesE_67 rfl rfl rfl ?_
        refine gM_25 rfl d_Mo_takesE_68 ?_
        refine wp_iload_n d_Mo_takesE_71 rfl rfl ?_
        rw [show upd I1 26 (nI (sp_op W + 1)) 25 = nI W.length from h25]
        refine sM_23 d_Mo_takesE_72 (vp_in_nI (by omega) (by decide)) ?_
        refine wp_aload_n d_Mo_takesE_73 rfl rfl rfl ?_
        refine wp_dup d_Mo_takesE_74 rfl ?_
        refine gM_25 rfl d_Mo_takesE_75 ?_
        refine wp_iconst (v := 1) d_Mo_takesE_78 rfl ?_
        refine wp_iadd d_Mo_takesE_79 ?_
        rw [show upd I1 26 (nI (sp_op W + 1)) 25 = nI W.length from h25, nI_1]
        refine pM_25 rfl d_Mo_takesE_80 ?_
        refine wp_aload_n d_Mo_takesE_83 rfl rfl rfl ?_
        refine wp_dup d_Mo_takesE_84 rfl ?_
        refine gM_14 rfl d_Mo_takesE_85 ?_
        refine wp_iconst (v := 1) d_Mo_takesE_88 rfl ?_
        refine wp_iadd d_Mo_takesE_89 ?_
        refine pM_14 rfl d_Mo_takesE_90 ?_
        refine wp_goto (t := 22) d_Mo_takesE_93 (by decide) ?_
        refine wp_less (ls' := [some (.ref X.length), some (.int _), some (.int _), none]) ⟨rfl, rfl, rfl, trivial⟩ ?_
        rw [nI_clamp (by omega), show upd (upd I1 26 (nI (sp_op W + 1))) 25 (nI (W.length + 1)) 14 = nI p from h14, nI_1]
        first
          | (have hi : sp_is T n p 33 := (sp_nx_is (c := 33) hx1 (by decide)).mp c_34
             have hR1 := hpush 33 (Or.inl rfl) hi
             rw [if_pos hi, if_neg hd4] at hP
             have hop1 : sp_op (33 :: W) = sp_op W + 1 := Nat.add_comm 1 _
             rw [show sp_nx T n p = nI 33 from c_34]
             refine ih0 (p + 1) (33 :: W) o _ _ (by have := hi.1; omega) (by rw [hop1]; omega) hR1 (fun p' l I2 A2 h hR2 => ?_) (fun p' I2 A2 h hF => ?_)
             · rw [hop1] at h
               simp only [h] at hP
               refine k p' (l ++ [6000]) I2 A2 hP ?_
               rw [show sp_wW (33 :: W) = sp_wW W from if_pos rfl, show sp_wE (33 :: W) = 6000 :: sp_wE W from if_pos rfl] at hR2
               rw [show o ++ (l ++ [6000]) ++ sp_wE W = o ++ l ++ 6000 :: sp_wE W from by simp only [List.append_assoc, List.cons_append, List.nil_append]]
               exact hR2
             · rw [hop1] at h
               simp only [h] at hP
               exact kf p' I2 A2 hP hF)
          | (have hi : sp_is T n p 40 := (sp_nx_is (c := 40) hx1 (by decide)).mp c_40
             have h33 : ¬ sp_is T n p 33 := fun z => by have := z.2; have := hi.2; omega
             have hR1 := hpush 40 (Or.inr rfl) hi
             rw [if_neg h33, if_pos hi, if_neg hd4] at hP
             have hop1 : sp_op (40 :: W) = sp_op W + 1 := Nat.add_comm 1 _
             rw [show sp_nx T n p = nI 40 from c_40]
             refine ih2 (p + 1) (40 :: W) o _ _ ⟨by decide, by decide, by decide⟩ (by have := hi.1; omega) (by rw [hop1]; omega) hR1 (fun p' l e g o' I2 A2 h h38 h124 hoo hR2 => ?_) (fun p' I2 A2 h hF => ?_)
             · rw [hop1] at h
               simp only [h] at hP
               refine l_Mo_fin (W := 40 :: W) hD hf hn hs0 hx hc ⟨by decide, by decide, by decide⟩ h38 h124 hR2 (fun I3 A3 hR3 _ => ?_)
               rw [hoo] at hR3
               clear hR2 hR1 hpush hR0 hm h21 h14 hpn h24 h25 h26 hst hs1 ho hle hx1
               have hR0 := hR3
               obtain ⟨hm, h21, h14, hpn, h24, h25, h26, hst, hs1, ho, hle⟩ := hR3
               have hx1 : mo_tx I3 A3 T n := hx.ms hm (by decide) (by decide)
               refine wp_aload_n d_Mo_takesE_178 rfl rfl rfl ?_
               refine gM_25 rfl d_Mo_takesE_179 ?_
               rw [h25]
               refine wp_if_ne (t := 187) d_Mo_takesE_182 (by decide) (fun c_182 => ?_) (fun c_182 => ?_)
               · skip
                 refine wp_iload_n d_Mo_takesE_187 rfl rfl ?_
                 refine wp_bipush (v := 41) d_Mo_takesE_188 (by decide) ?_
                 refine wp_icmp_eq (t := 195) d_Mo_takesE_190 (by decide) (fun c_190 => ?_) (fun c_190 => ?_)
                 · skip
                   have h41 : sp_is T n p' 41 := (sp_nx_is (c := 41) hx1 (by decide)).mp c_190
                   rw [if_pos h41] at hP
                   have hlc : (40 :: W).length = W.length + 1 := rfl
                   have hRw : mo_R I A (upd (upd (upd I3 25 (I3 25 - 1)) 26 (I3 26 - 1)) 14 (I3 14 + 1)) A3 n s0 c f (p' + 1) W (o ++ l) := by
                     refine ⟨((hm.i 25 (by decide) _).i 26 (by decide) _).i 14 (by decide) _, h21, ?_, h41.1, h24, ?_, ?_, hst.2.2, hs1, ho, by omega⟩
                     · refine (show I3 14 + 1 = nI (p' + 1) from ?_)
                       rw [h14, nI_1]
                     · refine (show I3 25 - 1 = nI W.length from ?_)
                       rw [show I3 25 = nI (W.length + 1) from h25]; exact nI_pred _
                     · refine (show I3 26 - 1 = nI (sp_op W) from ?_)
                       rw [show I3 26 = nI (sp_op W + 1) from h26.trans (congrArg nI hop1)]; exact nI_pred _
                   refine wp_aload_n d_Mo_takesE_195 rfl rfl rfl ?_
                   refine wp_dup d_Mo_takesE_196 rfl ?_
                   refine gM_25 rfl d_Mo_takesE_197 ?_
                   refine wp_iconst (v := 1) d_Mo_takesE_200 rfl ?_
                   refine wp_isub d_Mo_takesE_201 ?_
                   refine pM_25 rfl d_Mo_takesE_202 ?_
                   refine wp_aload_n d_Mo_takesE_205 rfl rfl rfl ?_
                   refine wp_dup d_Mo_takesE_206 rfl ?_
                   refine gM_26 rfl d_Mo_takesE_207 ?_
                   refine wp_iconst (v := 1) d_Mo_takesE_210 rfl ?_
                   refine wp_isub d_Mo_takesE_211 ?_
                   refine pM_26 rfl d_Mo_takesE_212 ?_
                   refine wp_aload_n d_Mo_takesE_215 rfl rfl rfl ?_
                   refine wp_dup d_Mo_takesE_216 rfl ?_
                   refine gM_14 rfl d_Mo_takesE_217 ?_
                   refine wp_iconst (v := 1) d_Mo_takesE_220 rfl ?_
                   refine wp_iadd d_Mo_takesE_221 ?_
                   refine pM_14 rfl d_Mo_takesE_222 ?_
                   refine wp_aload_n d_Mo_takesE_225 rfl rfl rfl ?_
                   refine wp_callV (r := (R_12, T_12, 70)) (M' := m_Mo_whole) (as := []) (D' := D - 1) (C1 := 0) (C2 := 0) (S1 := 0) (S2 := 0) d_Mo_takesE_226 rfl w_1293 w_1295 w_31 hm_0 k_Mo_whole (Nat.le_of_ble_eq_true rfl) rfl (Nat.le_of_ble_eq_true rfl) (by omega) rfl rfl ?_
                   refine c_Mo_whole (by omega) hf hn hs0 W (o ++ l) _ _ hRw (fun I4 A4 hR4 => ?_)
                   refine wp_goto (t := 22) d_Mo_takesE_229 (by decide) ?_
                   refine wp_less (ls' := [some (.ref X.length), some (.int _), some (.int _), none]) ⟨rfl, rfl, rfl, trivial⟩ ?_
                   exact k (p' + 1) l I4 A4 hP hR4
                 · skip
                   refine wp_iconst (v := 0) d_Mo_takesE_193 rfl ?_
                   refine wp_ireturn d_Mo_takesE_194 rfl rfl ?_
                   have h41 : ¬ sp_is T n p' 41 := fun z => c_190 ((sp_nx_is (c := 41) hx1 (by decide)).mpr z)
                   rw [if_neg h41] at hP
                   exact kf p' _ _ hP hR0.F
               · skip
                 refine wp_iconst (v := 1) d_Mo_takesE_185 rfl ?_
                 refine wp_ireturn d_Mo_takesE_186 rfl rfl ?_
                 exact absurd (by first | exact c_182 | exact Decidable.of_not_not c_182) (nI_ne0 (Nat.succ_pos _) (by have hlc : (40 :: W).length = W.length + 1 := rfl; omega))
             · rw [hop1] at h
               simp only [h] at hP
               exact kf p' I2 A2 hP hF)
      · skip
        refine wp_iconst (v := 0) d_Mo_takesE_51 rfl ?_
        refine wp_ireturn d_Mo_takesE_52 rfl rfl ?_
        have hd4 : 4 ≤ sp_op W := by have := (nI_eq (b := 4) (by omega) (by decide)).mp c_48; omega
        first
          | (have hi : sp_is T n p 33 := (sp_nx_is (c := 33) hx1 (by decide)).mp c_34
             rw [if_pos hi, if_pos hd4] at hP
             exact kf p _ _ hP hR0.F)
          | (have hi : sp_is T n p 40 := (sp_nx_is (c := 40) hx1 (by decide)).mp c_40
             have h33 : ¬ sp_is T n p 33 := fun z => by have := z.2; have := hi.2; omega
             rw [if_neg h33, if_pos hi, if_pos hd4] at hP
             exact kf p _ _ hP hR0.F)
end MOL
