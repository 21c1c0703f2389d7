def sp_tw (T : Nat → Nat) (n : Nat) : List Nat → Nat → Bool × Nat
  | [], p => if sp_is T n p 32 then (true, p + 1) else (false, p)
  | x :: l, p => if sp_is T n p x then sp_tw T n l (p + 1) else (false, p)
def sp_ltr : List Nat := [115, 108, 111, 119, 113, 117, 105, 99, 107, 114, 105, 115, 101, 114, 101, 115, 116, 112, 117, 108, 108]
def sp_lets (w : Nat) : List Nat := if w = 0 then [115, 108, 111, 119] else if w = 1 then [113, 117, 105, 99, 107] else if w = 2 then [114, 105, 115, 101] else if w = 3 then [114, 101, 115, 116] else [112, 117, 108, 108]
def sp_wd (T : Nat → Nat) (n p : Nat) : Nat := if sp_is T n p 115 then 0 else if sp_is T n p 113 then 1 else if sp_is T n p 112 then 4 else if sp_is T n (p + 1) 105 then 2 else 3
def sp_hd (T : Nat → Nat) (n p : Nat) : Bool × Nat := sp_tw T n (sp_lets (sp_wd T n p)) p
theorem sp_wd_4 {T : Nat → Nat} {n p : Nat} : sp_wd T n p ≤ 4 := by
  unfold sp_wd
  split
  · decide
  · split
    · decide
    · split
      · decide
      · split <;> decide
theorem sp_tw_b {T : Nat → Nat} {n : Nat} : ∀ {l : List Nat} {p : Nat} {b : Bool} {p' : Nat}, p ≤ n → sp_tw T n l p = (b, p') → p ≤ p' ∧ p' ≤ n := by
  intro l
  induction l with
  | nil =>
    intro p b p' hp h
    rw [sp_tw] at h
    by_cases hc : sp_is T n p 32
    · rw [if_pos hc] at h; cases h; exact ⟨by omega, hc.1⟩
    · rw [if_neg hc] at h; cases h; exact ⟨Nat.le_refl _, hp⟩
  | cons x l ih =>
    intro p b p' hp h
    rw [sp_tw] at h
    by_cases hc : sp_is T n p x
    · rw [if_pos hc] at h; have := ih (p := p + 1) hc.1 h; exact ⟨by omega, this.2⟩
    · rw [if_neg hc] at h; cases h; exact ⟨Nat.le_refl _, hp⟩
def sp_cla (T : Nat → Nat) (n p : Nat) : Option sp_Cl × Nat :=
  match sp_hd T n p with
  | (false, p') => (none, p')
  | (true, p1) => match sp_num T n p1 with
    | (none, p') => (none, p')
    | (some d, p2) => if 2 ≤ sp_wd T n p then (some (sp_wd T n p, d, []), p2)
      else if sp_is T n p2 32 then (match sp_E T n (p2 + 1) with
        | (some l, p3) => (some (sp_wd T n p, d, l), p3)
        | (none, p3) => (none, p3))
      else (none, p2)
def sp_txt (T : Nat → Nat) (n : Nat) : Nat → Nat → Option (List sp_Cl) × Nat
  | 0, p => (none, p)
  | q + 1, p => match sp_cla T n p with
    | (none, p') => (none, p')
    | (some c, p') => if p' = n then (some [c], p')
      else if q = 0 ∨ ¬ sp_is T n p' 59 then (none, p')
      else match sp_txt T n q (p' + 1) with
        | (some cs, p'') => (some (c :: cs), p'')
        | (none, p'') => (none, p'')
theorem va_uu {A : Nat → Nat → Int32} {k c : Nat} {x : Int32} : va_up A k (upd (A k) c x) k c = x := by
  show (if k = k then upd (A k) c x else A k) c = x
  rw [if_pos rfl]
  exact if_pos rfl
theorem mo_ltr_e {j x : Nat} (h : sp_ltr[j]? = some x) : mo_ltr j = nI x := by
  have hj : j < 21 := (List.getElem?_eq_some_iff.mp h).1
  have hall : ∀ k : Nat, k < 21 → mo_ltr k = nI (sp_ltr.getD k 0) := by decide
  have h2 := hall j hj
  rw [List.getD_eq_getElem?_getD, h] at h2
  exact h2
section MON
variable {G : px_G} {D : Nat} {X E : px_H} {I : Nat → Int32} {A : Nat → Nat → Int32} {L : Nat → Nat → Int64} {Q : Option Value → px_H → Prop}
set_option maxRecDepth 4000 in
theorem l_Mo_takesWord_2 {T : Nat → Nat} {n fr many : Nat} (hD : 2 ≤ D) (hx : mo_tx I A T n) (hfr : fr + many ≤ 21) : ∀ (l : List Nat) (k p : Nat) (I1 : Nat → Int32), k + l.length = many → (∀ i x, l[i]? = some x → mo_ltr (fr + (k + i)) = nI x ∧ x < 128) → ms [14] [] I I1 A A → I1 14 = nI p → p ≤ n → (∀ p', sp_tw T n l p = (true, p') → ∀ I2 : Nat → Int32, ms [14] [] I I2 A A → I2 14 = nI p' → Q (some (.int 1)) (HM X I2 A L E)) → (∀ p', sp_tw T n l p = (false, p') → ∀ I2 : Nat → Int32, ms [14] [] I I2 A A → I2 14 = nI p' → Q (some (.int 0)) (HM X I2 A L E)) → px_W G D 0 0 m_Mo_takesWord 2 [some (.ref X.length), some (.int (nI fr)), some (.int (nI many)), some (.int (nI k))] [] (HM X I1 A L E) Q := by
  intro l
  induction l with
  | nil =>
    intro k p I1 hk hl hm h14 hpn kt kf
    have hn := hx.2.1
    have hx1 : mo_tx I1 A T n := hx.ms hm (by decide) (by decide)
    have hk2 : k = many := hk
    subst hk2
    refine wp_iload_n d_Mo_takesWord_2 rfl rfl ?_
    refine wp_iload_n d_Mo_takesWord_3 rfl rfl ?_
    refine wp_icmp_ge (t := 30) d_Mo_takesWord_4 (by decide) (fun c_4 => ?_) (fun c_4 => absurd (nI_le (Nat.le_refl _) (by omega)) c_4)
    refine wp_aload_n d_Mo_takesWord_30 rfl rfl rfl ?_
    refine wp_bipush (v := (nI 32)) d_Mo_takesWord_31 (by decide) ?_
    refine wp_callV (r := (R_12, T_12, 70)) (M' := m_Mo_takes) (as := [_]) (D' := D - 1) (C1 := 0) (C2 := 0) (S1 := 0) (S2 := 0) d_Mo_takesWord_33 rfl w_1261 w_1263 w_23 hm_0 k_Mo_takes (Nat.le_of_ble_eq_true rfl) rfl (Nat.le_of_ble_eq_true rfl) (by omega) rfl rfl ?_
    refine c_Mo_takes (by omega) (c := 32) hx1 h14 (by omega) (by decide) (fun c_33 => ?_) (fun c_33 => ?_)
    · skip
      refine wp_ireturn d_Mo_takesWord_36 rfl rfl ?_
      refine kt (p + 1) ?_ _ (hm.i 14 (by decide) _) rfl
      rw [sp_tw, if_pos c_33]
    · skip
      refine wp_ireturn d_Mo_takesWord_36 rfl rfl ?_
      refine kf p ?_ _ hm h14
      rw [sp_tw, if_neg c_33]
  | cons x l ih =>
    intro k p I1 hk hl hm h14 hpn kt kf
    have hn := hx.2.1
    have hx1 : mo_tx I1 A T n := hx.ms hm (by decide) (by decide)
    have hlc : (x :: l).length = l.length + 1 := rfl
    rw [hlc] at hk
    have h0 := hl 0 x rfl
    rw [Nat.add_zero] at h0
    refine wp_iload_n d_Mo_takesWord_2 rfl rfl ?_
    refine wp_iload_n d_Mo_takesWord_3 rfl rfl ?_
    refine wp_icmp_ge (t := 30) d_Mo_takesWord_4 (by decide) (fun c_4 => absurd c_4 (nI_ge (by omega) (by omega))) (fun c_4 => ?_)
    refine wp_aload_n d_Mo_takesWord_7 rfl rfl rfl ?_
    refine wp_aload_n d_Mo_takesWord_8 rfl rfl rfl ?_
    refine gM_27 rfl d_Mo_takesWord_9 ?_
    refine wp_iload_n d_Mo_takesWord_12 rfl rfl ?_
    refine wp_iload_n d_Mo_takesWord_13 rfl rfl ?_
    refine wp_iadd d_Mo_takesWord_14 ?_
    rw [nI_add]
    refine lM_27 d_Mo_takesWord_15 (vp_in_nI (by omega) (by decide)) ?_
    rw [nI_clamp (by omega), h0.1]
    refine wp_callV (r := (R_12, T_12, 70)) (M' := m_Mo_takes) (as := [_]) (D' := D - 1) (C1 := 0) (C2 := 0) (S1 := 0) (S2 := 0) d_Mo_takesWord_16 rfl w_1261 w_1263 w_23 hm_0 k_Mo_takes (Nat.le_of_ble_eq_true rfl) rfl (Nat.le_of_ble_eq_true rfl) (by omega) rfl rfl ?_
    refine c_Mo_takes (by omega) (c := x) hx1 h14 (by omega) h0.2 (fun c_16 => ?_) (fun c_16 => ?_)
    · skip
      refine wp_if_ne (t := 24) d_Mo_takesWord_19 (by decide) (fun c_19 => ?_) (fun c_19 => (absurd c_19 (by decide)))
      refine wp_iinc (v := _ + 1) (ls' := [_, _, _, _]) d_Mo_takesWord_24 (by decide) rfl rfl rfl ?_
      refine wp_goto (t := 2) d_Mo_takesWord_27 (by decide) ?_
      rw [show nI k + 1 = nI (k + 1) from nI_1 k]
      rw [sp_tw, if_pos c_16] at kt kf
      exact ih (k + 1) (p + 1) _ (by omega) (fun i y hi => by have h2 := hl (i + 1) y hi; rw [show k + (i + 1) = k + 1 + i from by omega] at h2; exact h2) (hm.i 14 (by decide) _) rfl c_16.1 kt kf
    · skip
      refine wp_if_ne (t := 24) d_Mo_takesWord_19 (by decide) (fun c_19 => (absurd c_19 (by decide))) (fun c_19 => ?_)
      refine wp_iconst (v := 0) d_Mo_takesWord_22 rfl ?_
      refine wp_ireturn d_Mo_takesWord_23 rfl rfl ?_
      refine kf p ?_ _ hm h14
      rw [sp_tw, if_neg c_16]
set_option maxRecDepth 4000 in
theorem c_Mo_takesWord {T : Nat → Nat} {n p fr many : Nat} {l : List Nat} (hD : 2 ≤ D) (hx : mo_tx I A T n) (hp : I 14 = nI p) (hpn : p ≤ n) (hfr : fr + many ≤ 21) (hll : l.length = many) (hl : ∀ i x, l[i]? = some x → mo_ltr (fr + i) = nI x ∧ x < 128) (kt : (∀ p', sp_tw T n l p = (true, p') → ∀ I2 : Nat → Int32, ms [14] [] I I2 A A → I2 14 = nI p' → Q (some (.int 1)) (HM X I2 A L E))) (kf : (∀ p', sp_tw T n l p = (false, p') → ∀ I2 : Nat → Int32, ms [14] [] I I2 A A → I2 14 = nI p' → Q (some (.int 0)) (HM X I2 A L E))) : px_W G D 0 0 m_Mo_takesWord 0 (px_ent 4 [.ref X.length, .int (nI fr), .int (nI many)]) [] (HM X I A L E) Q := by
  show px_W _ _ _ _ _ _ [some (.ref X.length), some (.int (nI fr)), some (.int (nI many)), none] [] _ _
  refine wp_iconst (v := 0) d_Mo_takesWord_0 rfl ?_
  refine wp_istore_n (ls' := [_, _, _, _]) d_Mo_takesWord_1 rfl (by decide) rfl ?_
  exact l_Mo_takesWord_2 hD hx hfr l 0 p I (by omega) (fun i x hi => by rw [Nat.zero_add]; exact hl i x hi) ms.rf hp hpn kt kf
set_option maxRecDepth 4000 in
theorem c_Mo_takesHead {T : Nat → Nat} {n p c : Nat} (hD : 3 ≤ D) (hx : mo_tx I A T n) (hp : I 14 = nI p) (hpn : p ≤ n) (hc : c < 60) (kt : (∀ p', sp_hd T n p = (true, p') → ∀ I2 : Nat → Int32, ms [14] [] I I2 (va_up A 18 (upd (A 18) c (nI (sp_wd T n p)))) (va_up A 18 (upd (A 18) c (nI (sp_wd T n p)))) → I2 14 = nI p' → Q (some (.int 1)) (HM X I2 (va_up A 18 (upd (A 18) c (nI (sp_wd T n p)))) L E))) (kf : (∀ p', sp_hd T n p = (false, p') → ∀ I2 : Nat → Int32, ms [14] [] I I2 (va_up A 18 (upd (A 18) c (nI (sp_wd T n p)))) (va_up A 18 (upd (A 18) c (nI (sp_wd T n p)))) → I2 14 = nI p' → Q (some (.int 0)) (HM X I2 (va_up A 18 (upd (A 18) c (nI (sp_wd T n p)))) L E))) : px_W G D 0 0 m_Mo_takesHead 0 (px_ent 2 [.ref X.length, .int (nI c)]) [] (HM X I A L E) Q := by
  have hn := hx.2.1
  have lx : ∀ wd fr, ((wd = 0 ∧ fr = 0) ∨ (wd = 1 ∧ fr = 4) ∨ (wd = 2 ∧ fr = 9) ∨ (wd = 3 ∧ fr = 13) ∨ (wd = 4 ∧ fr = 17)) → ∀ i x, (sp_lets wd)[i]? = some x → mo_ltr (fr + i) = nI x ∧ x < 128 := by
    intro wd fr h i x hi
    have hb : (sp_lets wd)[i]? = some x → sp_ltr[fr + i]? = some x ∧ x < 128 := by
      have hlen : (sp_lets wd).length ≤ 5 := by
        rcases h with ⟨h, _⟩ | ⟨h, _⟩ | ⟨h, _⟩ | ⟨h, _⟩ | ⟨h, _⟩ <;> subst h <;> decide
      intro hi
      have hlt := (List.getElem?_eq_some_iff.mp hi).1
      have hi5 : i < 5 := by omega
      have hall : ∀ k : Nat, k < 5 → ((sp_lets 0)[k]? = none ∨ ((sp_lets 0)[k]? = sp_ltr[0 + k]? ∧ (sp_lets 0).getD k 0 < 128)) ∧ ((sp_lets 1)[k]? = none ∨ ((sp_lets 1)[k]? = sp_ltr[4 + k]? ∧ (sp_lets 1).getD k 0 < 128)) ∧ ((sp_lets 2)[k]? = none ∨ ((sp_lets 2)[k]? = sp_ltr[9 + k]? ∧ (sp_lets 2).getD k 0 < 128)) ∧ ((sp_lets 3)[k]? = none ∨ ((sp_lets 3)[k]? = sp_ltr[13 + k]? ∧ (sp_lets 3).getD k 0 < 128)) ∧ ((sp_lets 4)[k]? = none ∨ ((sp_lets 4)[k]? = sp_ltr[17 + k]? ∧ (sp_lets 4).getD k 0 < 128)) := by decide
      obtain ⟨a0, a1, a2, a3, a4⟩ := hall i hi5
      have fin : ∀ wd fr, ((sp_lets wd)[i]? = none ∨ ((sp_lets wd)[i]? = sp_ltr[fr + i]? ∧ (sp_lets wd).getD i 0 < 128)) → (sp_lets wd)[i]? = some x → sp_ltr[fr + i]? = some x ∧ x < 128 := by
        intro wd fr h hi
        rcases h with h | h
        · rw [h] at hi; cases hi
        · refine ⟨h.1 ▸ hi, ?_⟩
          have := h.2
          rw [List.getD_eq_getElem?_getD, hi] at this
          exact this
      rcases h with ⟨h, h2⟩ | ⟨h, h2⟩ | ⟨h, h2⟩ | ⟨h, h2⟩ | ⟨h, h2⟩ <;> subst h <;> subst h2
      · exact fin 0 0 a0 hi
      · exact fin 1 4 a1 hi
      · exact fin 2 9 a2 hi
      · exact fin 3 13 a3 hi
      · exact fin 4 17 a4 hi
    exact ⟨mo_ltr_e (hb hi).1, (hb hi).2⟩
  show px_W _ _ _ _ _ _ [some (.ref X.length), some (.int (nI c))] [] _ _
  refine wp_aload_n d_Mo_takesHead_0 rfl rfl rfl ?_
  refine wp_callV (r := (R_12, T_12, 70)) (M' := m_Mo_next) (as := []) (D' := D - 1) (C1 := 0) (C2 := 0) (S1 := 0) (S2 := 0) d_Mo_takesHead_1 rfl w_1253 w_1255 w_21 hm_0 k_Mo_next (Nat.le_of_ble_eq_true rfl) rfl (Nat.le_of_ble_eq_true rfl) (by omega) rfl rfl ?_
  refine c_Mo_next (by omega) hx hp (by omega) ?_
  refine wp_topi (fun y_4 e_4 => ?_)
  by_cases s_4_112 : y_4 = 112
  · rw [s_4_112]
    refine wp_tableIn (off := 60) (t := 64) d_Mo_takesHead_4 (by decide) (by decide) rfl (by decide) ?_
    refine wp_aload_n d_Mo_takesHead_64 rfl rfl rfl ?_
    refine gM_18 rfl d_Mo_takesHead_65 ?_
    refine wp_iload_n d_Mo_takesHead_68 rfl rfl ?_
    refine wp_iconst (v := (nI 4)) d_Mo_takesHead_69 rfl ?_
    refine sM_18 d_Mo_takesHead_70 (vp_in_nI hc (by decide)) ?_
    have hw : sp_wd T n p = 4 := by
      have h112 : sp_is T n p 112 := (sp_nx_is (c := 112) hx (by decide)).mp (by first | exact e_4.symm.trans s_4_112 | exact e_4.trans s_4_112)
      rw [sp_wd, if_neg (fun z => by have := z.2; have := h112.2; omega), if_neg (fun z => by have := z.2; have := h112.2; omega), if_pos h112]
    rw [nI_clamp (by omega)]
    rw [hw] at kt kf
    have hx2 : mo_tx I (va_up A 18 (upd (A 18) c (nI 4))) T n := hx.ms ((ms.rf (SI := []) (SA := [18])).a 18 (by decide) _) (by decide) (by decide)
    have lts4 : ∀ i x, (sp_lets 4)[i]? = some x → mo_ltr (17 + i) = nI x ∧ x < 128 := lx 4 17 (by decide)
    refine wp_aload_n d_Mo_takesHead_71 rfl rfl rfl ?_
    refine wp_bipush (v := (nI 17)) d_Mo_takesHead_72 (by decide) ?_
    refine wp_iconst (v := (nI 4)) d_Mo_takesHead_74 rfl ?_
    refine wp_callV (r := (R_12, T_12, 70)) (M' := m_Mo_takesWord) (as := [_, _]) (D' := D - 1) (C1 := 0) (C2 := 0) (S1 := 0) (S2 := 0) d_Mo_takesHead_75 rfl w_1257 w_1259 w_22 hm_0 k_Mo_takesWord (Nat.le_of_ble_eq_true rfl) rfl (Nat.le_of_ble_eq_true rfl) (by omega) rfl rfl ?_
    refine c_Mo_takesWord (by omega) (n := n) (T := T) (p := p) (fr := 17) (many := 4) (l := sp_lets 4) hx2 hp hpn (by decide) rfl (lts4) (fun p' ht I2 hm2 e14 => ?_) (fun p' ht I2 hm2 e14 => ?_)
    · skip
      refine wp_ireturn d_Mo_takesHead_78 rfl rfl ?_
      exact kt p' (by rw [sp_hd, hw]; exact ht) I2 hm2 e14
    · skip
      refine wp_ireturn d_Mo_takesHead_78 rfl rfl ?_
      exact kf p' (by rw [sp_hd, hw]; exact ht) I2 hm2 e14
  by_cases s_4_113 : y_4 = 113
  · rw [s_4_113]
    refine wp_tableIn (off := 46) (t := 50) d_Mo_takesHead_4 (by decide) (by decide) rfl (by decide) ?_
    refine wp_aload_n d_Mo_takesHead_50 rfl rfl rfl ?_
    refine gM_18 rfl d_Mo_takesHead_51 ?_
    refine wp_iload_n d_Mo_takesHead_54 rfl rfl ?_
    refine wp_iconst (v := (nI 1)) d_Mo_takesHead_55 rfl ?_
    refine sM_18 d_Mo_takesHead_56 (vp_in_nI hc (by decide)) ?_
    have hw : sp_wd T n p = 1 := by
      have h113 : sp_is T n p 113 := (sp_nx_is (c := 113) hx (by decide)).mp (by first | exact e_4.symm.trans s_4_113 | exact e_4.trans s_4_113)
      rw [sp_wd, if_neg (fun z => by have := z.2; have := h113.2; omega), if_pos h113]
    rw [nI_clamp (by omega)]
    rw [hw] at kt kf
    have hx2 : mo_tx I (va_up A 18 (upd (A 18) c (nI 1))) T n := hx.ms ((ms.rf (SI := []) (SA := [18])).a 18 (by decide) _) (by decide) (by decide)
    have lts1 : ∀ i x, (sp_lets 1)[i]? = some x → mo_ltr (4 + i) = nI x ∧ x < 128 := lx 1 4 (by decide)
    refine wp_aload_n d_Mo_takesHead_57 rfl rfl rfl ?_
    refine wp_iconst (v := (nI 4)) d_Mo_takesHead_58 rfl ?_
    refine wp_iconst (v := (nI 5)) d_Mo_takesHead_59 rfl ?_
    refine wp_callV (r := (R_12, T_12, 70)) (M' := m_Mo_takesWord) (as := [_, _]) (D' := D - 1) (C1 := 0) (C2 := 0) (S1 := 0) (S2 := 0) d_Mo_takesHead_60 rfl w_1257 w_1259 w_22 hm_0 k_Mo_takesWord (Nat.le_of_ble_eq_true rfl) rfl (Nat.le_of_ble_eq_true rfl) (by omega) rfl rfl ?_
    refine c_Mo_takesWord (by omega) (n := n) (T := T) (p := p) (fr := 4) (many := 5) (l := sp_lets 1) hx2 hp hpn (by decide) rfl (lts1) (fun p' ht I2 hm2 e14 => ?_) (fun p' ht I2 hm2 e14 => ?_)
    · skip
      refine wp_ireturn d_Mo_takesHead_63 rfl rfl ?_
      exact kt p' (by rw [sp_hd, hw]; exact ht) I2 hm2 e14
    · skip
      refine wp_ireturn d_Mo_takesHead_63 rfl rfl ?_
      exact kf p' (by rw [sp_hd, hw]; exact ht) I2 hm2 e14
  by_cases s_4_114 : y_4 = 114
  · rw [s_4_114]
    refine wp_tableIn (off := 75) (t := 79) d_Mo_takesHead_4 (by decide) (by decide) rfl (by decide) ?_
    refine wp_aload_n d_Mo_takesHead_79 rfl rfl rfl ?_
    refine gM_18 rfl d_Mo_takesHead_80 ?_
    refine wp_iload_n d_Mo_takesHead_83 rfl rfl ?_
    refine wp_aload_n d_Mo_takesHead_84 rfl rfl rfl ?_
    refine wp_callV (r := (R_12, T_12, 70)) (M' := m_Mo_second) (as := []) (D' := D - 1) (C1 := 0) (C2 := 0) (S1 := 0) (S2 := 0) d_Mo_takesHead_85 rfl w_1265 w_1267 w_24 hm_0 k_Mo_second (Nat.le_of_ble_eq_true rfl) rfl (Nat.le_of_ble_eq_true rfl) (by omega) rfl rfl ?_
    refine c_Mo_second (by omega) hx hp (by omega) ?_
    refine wp_bipush (v := 105) d_Mo_takesHead_88 (by decide) ?_
    refine wp_icmp_ne (t := 97) d_Mo_takesHead_90 (by decide) (fun c_90 => ?_) (fun c_90 => ?_)
    · skip
      refine wp_iconst (v := (nI 3)) d_Mo_takesHead_97 rfl ?_
      have hw : sp_wd T n p = 3 := by
        first
          | (have h114 : sp_is T n p 114 := (sp_nx_is (c := 114) hx (by decide)).mp (by first | exact e_4.symm.trans s_4_114 | exact e_4.trans s_4_114)
             rw [sp_wd, if_neg (fun z => by have := z.2; have := h114.2; omega), if_neg (fun z => by have := z.2; have := h114.2; omega), if_neg (fun z => by have := z.2; have := h114.2; omega), if_neg (fun z => c_90 ((sp_nx_is (c := 105) hx (by decide)).mpr z))])
          | rw [sp_wd, if_neg (fun z => s_4_115 (by first | exact e_4.trans ((sp_nx_is (c := 115) hx (by decide)).mpr z) | exact e_4.symm.trans ((sp_nx_is (c := 115) hx (by decide)).mpr z))), if_neg (fun z => s_4_113 (by first | exact e_4.trans ((sp_nx_is (c := 113) hx (by decide)).mpr z) | exact e_4.symm.trans ((sp_nx_is (c := 113) hx (by decide)).mpr z))), if_neg (fun z => s_4_112 (by first | exact e_4.trans ((sp_nx_is (c := 112) hx (by decide)).mpr z) | exact e_4.symm.trans ((sp_nx_is (c := 112) hx (by decide)).mpr z))), if_neg (fun z => c_90 ((sp_nx_is (c := 105) hx (by decide)).mpr z))]
      rw [hw] at kt kf
      have hx2 : mo_tx I (va_up A 18 (upd (A 18) c (nI 3))) T n := hx.ms ((ms.rf (SI := []) (SA := [18])).a 18 (by decide) _) (by decide) (by decide)
      have lts3 : ∀ i x, (sp_lets 3)[i]? = some x → mo_ltr (13 + i) = nI x ∧ x < 128 := lx 3 13 (by decide)
      refine sM_18 d_Mo_takesHead_98 (vp_in_nI hc (by decide)) ?_
      refine wp_aload_n d_Mo_takesHead_99 rfl rfl rfl ?_
      refine gM_18 rfl d_Mo_takesHead_100 ?_
      refine wp_iload_n d_Mo_takesHead_103 rfl rfl ?_
      refine lM_18 d_Mo_takesHead_104 (vp_in_nI hc (by decide)) ?_
      rw [nI_clamp (by omega), va_uu]
      refine wp_iconst (v := 2) d_Mo_takesHead_105 rfl ?_
      refine wp_icmp_ne (t := 119) d_Mo_takesHead_106 (by decide) (fun c_106 => ?_) (fun c_106 => absurd c_106 (by decide))
      refine wp_aload_n d_Mo_takesHead_119 rfl rfl rfl ?_
      refine wp_bipush (v := (nI 13)) d_Mo_takesHead_120 (by decide) ?_
      refine wp_iconst (v := (nI 4)) d_Mo_takesHead_122 rfl ?_
      refine wp_callV (r := (R_12, T_12, 70)) (M' := m_Mo_takesWord) (as := [_, _]) (D' := D - 1) (C1 := 0) (C2 := 0) (S1 := 0) (S2 := 0) d_Mo_takesHead_123 rfl w_1257 w_1259 w_22 hm_0 k_Mo_takesWord (Nat.le_of_ble_eq_true rfl) rfl (Nat.le_of_ble_eq_true rfl) (by omega) rfl rfl ?_
      refine c_Mo_takesWord (by omega) (n := n) (T := T) (p := p) (fr := 13) (many := 4) (l := sp_lets 3) hx2 hp hpn (by decide) rfl (lts3) (fun p' ht I2 hm2 e14 => ?_) (fun p' ht I2 hm2 e14 => ?_)
      · skip
        refine wp_ireturn d_Mo_takesHead_126 rfl rfl ?_
        exact kt p' (by rw [sp_hd, hw]; exact ht) I2 hm2 e14
      · skip
        refine wp_ireturn d_Mo_takesHead_126 rfl rfl ?_
        exact kf p' (by rw [sp_hd, hw]; exact ht) I2 hm2 e14
    · skip
      refine wp_iconst (v := (nI 2)) d_Mo_takesHead_93 rfl ?_
      refine wp_goto (t := 98) d_Mo_takesHead_94 (by decide) ?_
      have hw : sp_wd T n p = 2 := by
        first
          | (have h114 : sp_is T n p 114 := (sp_nx_is (c := 114) hx (by decide)).mp (by first | exact e_4.symm.trans s_4_114 | exact e_4.trans s_4_114)
             rw [sp_wd, if_neg (fun z => by have := z.2; have := h114.2; omega), if_neg (fun z => by have := z.2; have := h114.2; omega), if_neg (fun z => by have := z.2; have := h114.2; omega), if_pos ((sp_nx_is (c := 105) hx (by decide)).mp c_90)])
          | rw [sp_wd, if_neg (fun z => s_4_115 (by first | exact e_4.trans ((sp_nx_is (c := 115) hx (by decide)).mpr z) | exact e_4.symm.trans ((sp_nx_is (c := 115) hx (by decide)).mpr z))), if_neg (fun z => s_4_113 (by first | exact e_4.trans ((sp_nx_is (c := 113) hx (by decide)).mpr z) | exact e_4.symm.trans ((sp_nx_is (c := 113) hx (by decide)).mpr z))), if_neg (fun z => s_4_112 (by first | exact e_4.trans ((sp_nx_is (c := 112) hx (by decide)).mpr z) | exact e_4.symm.trans ((sp_nx_is (c := 112) hx (by decide)).mpr z))), if_pos ((sp_nx_is (c := 105) hx (by decide)).mp c_90)]
      rw [hw] at kt kf
      have hx2 : mo_tx I (va_up A 18 (upd (A 18) c (nI 2))) T n := hx.ms ((ms.rf (SI := []) (SA := [18])).a 18 (by decide) _) (by decide) (by decide)
      have lts2 : ∀ i x, (sp_lets 2)[i]? = some x → mo_ltr (9 + i) = nI x ∧ x < 128 := lx 2 9 (by decide)
      refine sM_18 d_Mo_takesHead_98 (vp_in_nI hc (by decide)) ?_
      refine wp_aload_n d_Mo_takesHead_99 rfl rfl rfl ?_
      refine gM_18 rfl d_Mo_takesHead_100 ?_
      refine wp_iload_n d_Mo_takesHead_103 rfl rfl ?_
      refine lM_18 d_Mo_takesHead_104 (vp_in_nI hc (by decide)) ?_
      rw [nI_clamp (by omega), va_uu]
      refine wp_iconst (v := 2) d_Mo_takesHead_105 rfl ?_
      refine wp_icmp_ne (t := 119) d_Mo_takesHead_106 (by decide) (fun c_106 => absurd rfl c_106) (fun c_106 => ?_)
      refine wp_aload_n d_Mo_takesHead_109 rfl rfl rfl ?_
      refine wp_bipush (v := (nI 9)) d_Mo_takesHead_110 (by decide) ?_
      refine wp_iconst (v := (nI 4)) d_Mo_takesHead_112 rfl ?_
      refine wp_callV (r := (R_12, T_12, 70)) (M' := m_Mo_takesWord) (as := [_, _]) (D' := D - 1) (C1 := 0) (C2 := 0) (S1 := 0) (S2 := 0) d_Mo_takesHead_113 rfl w_1257 w_1259 w_22 hm_0 k_Mo_takesWord (Nat.le_of_ble_eq_true rfl) rfl (Nat.le_of_ble_eq_true rfl) (by omega) rfl rfl ?_
      refine c_Mo_takesWord (by omega) (n := n) (T := T) (p := p) (fr := 9) (many := 4) (l := sp_lets 2) hx2 hp hpn (by decide) rfl (lts2) (fun p' ht I2 hm2 e14 => ?_) (fun p' ht I2 hm2 e14 => ?_)
      · skip
        refine wp_goto (t := 126) d_Mo_takesHead_116 (by decide) ?_
        refine wp_ireturn d_Mo_takesHead_126 rfl rfl ?_
        exact kt p' (by rw [sp_hd, hw]; exact ht) I2 hm2 e14
      · skip
        refine wp_goto (t := 126) d_Mo_takesHead_116 (by decide) ?_
        refine wp_ireturn d_Mo_takesHead_126 rfl rfl ?_
        exact kf p' (by rw [sp_hd, hw]; exact ht) I2 hm2 e14
  by_cases s_4_115 : y_4 = 115
  · rw [s_4_115]
    refine wp_tableIn (off := 32) (t := 36) d_Mo_takesHead_4 (by decide) (by decide) rfl (by decide) ?_
    refine wp_aload_n d_Mo_takesHead_36 rfl rfl rfl ?_
    refine gM_18 rfl d_Mo_takesHead_37 ?_
    refine wp_iload_n d_Mo_takesHead_40 rfl rfl ?_
    refine wp_iconst (v := (nI 0)) d_Mo_takesHead_41 rfl ?_
    refine sM_18 d_Mo_takesHead_42 (vp_in_nI hc (by decide)) ?_
    have hw : sp_wd T n p = 0 := by
      rw [sp_wd, if_pos ((sp_nx_is (c := 115) hx (by decide)).mp (by first | exact e_4.symm.trans s_4_115 | exact e_4.trans s_4_115))]
    rw [nI_clamp (by omega)]
    rw [hw] at kt kf
    have hx2 : mo_tx I (va_up A 18 (upd (A 18) c (nI 0))) T n := hx.ms ((ms.rf (SI := []) (SA := [18])).a 18 (by decide) _) (by decide) (by decide)
    have lts0 : ∀ i x, (sp_lets 0)[i]? = some x → mo_ltr (0 + i) = nI x ∧ x < 128 := lx 0 0 (by decide)
    refine wp_aload_n d_Mo_takesHead_43 rfl rfl rfl ?_
    refine wp_iconst (v := (nI 0)) d_Mo_takesHead_44 rfl ?_
    refine wp_iconst (v := (nI 4)) d_Mo_takesHead_45 rfl ?_
    refine wp_callV (r := (R_12, T_12, 70)) (M' := m_Mo_takesWord) (as := [_, _]) (D' := D - 1) (C1 := 0) (C2 := 0) (S1 := 0) (S2 := 0) d_Mo_takesHead_46 rfl w_1257 w_1259 w_22 hm_0 k_Mo_takesWord (Nat.le_of_ble_eq_true rfl) rfl (Nat.le_of_ble_eq_true rfl) (by omega) rfl rfl ?_
    refine c_Mo_takesWord (by omega) (n := n) (T := T) (p := p) (fr := 0) (many := 4) (l := sp_lets 0) hx2 hp hpn (by decide) rfl (lts0) (fun p' ht I2 hm2 e14 => ?_) (fun p' ht I2 hm2 e14 => ?_)
    · skip
      refine wp_ireturn d_Mo_takesHead_49 rfl rfl ?_
      exact kt p' (by rw [sp_hd, hw]; exact ht) I2 hm2 e14
    · skip
      refine wp_ireturn d_Mo_takesHead_49 rfl rfl ?_
      exact kf p' (by rw [sp_hd, hw]; exact ht) I2 hm2 e14
  have n_4_112 : y_4.toInt ≠ 112 := lv_neT s_4_112 rfl
  have n_4_113 : y_4.toInt ≠ 113 := lv_neT s_4_113 rfl
  have n_4_114 : y_4.toInt ≠ 114 := lv_neT s_4_114 rfl
  have n_4_115 : y_4.toInt ≠ 115 := lv_neT s_4_115 rfl
  refine wp_tableOut (t := 79) d_Mo_takesHead_4 (by omega) (by decide) ?_
  refine wp_aload_n d_Mo_takesHead_79 rfl rfl rfl ?_
  refine gM_18 rfl d_Mo_takesHead_80 ?_
  refine wp_iload_n d_Mo_takesHead_83 rfl rfl ?_
  refine wp_aload_n d_Mo_takesHead_84 rfl rfl rfl ?_
  refine wp_callV (r := (R_12, T_12, 70)) (M' := m_Mo_second) (as := []) (D' := D - 1) (C1 := 0) (C2 := 0) (S1 := 0) (S2 := 0) d_Mo_takesHead_85 rfl w_1265 w_1267 w_24 hm_0 k_Mo_second (Nat.le_of_ble_eq_true rfl) rfl (Nat.le_of_ble_eq_true rfl) (by omega) rfl rfl ?_
  refine c_Mo_second (by omega) hx hp (by omega) ?_
  refine wp_bipush (v := 105) d_Mo_takesHead_88 (by decide) ?_
  refine wp_icmp_ne (t := 97) d_Mo_takesHead_90 (by decide) (fun c_90 => ?_) (fun c_90 => ?_)
  · skip
    refine wp_iconst (v := (nI 3)) d_Mo_takesHead_97 rfl ?_
    have hw : sp_wd T n p = 3 := by
      first
        | (have h114 : sp_is T n p 114 := (sp_nx_is (c := 114) hx (by decide)).mp (by first | exact e_4.symm.trans s_4_114 | exact e_4.trans s_4_114)
           rw [sp_wd, if_neg (fun z => by have := z.2; have := h114.2; omega), if_neg (fun z => by have := z.2; have := h114.2; omega), if_neg (fun z => by have := z.2; have := h114.2; omega), if_neg (fun z => c_90 ((sp_nx_is (c := 105) hx (by decide)).mpr z))])
        | rw [sp_wd, if_neg (fun z => s_4_115 (by first | exact e_4.trans ((sp_nx_is (c := 115) hx (by decide)).mpr z) | exact e_4.symm.trans ((sp_nx_is (c := 115) hx (by decide)).mpr z))), if_neg (fun z => s_4_113 (by first | exact e_4.trans ((sp_nx_is (c := 113) hx (by decide)).mpr z) | exact e_4.symm.trans ((sp_nx_is (c := 113) hx (by decide)).mpr z))), if_neg (fun z => s_4_112 (by first | exact e_4.trans ((sp_nx_is (c := 112) hx (by decide)).mpr z) | exact e_4.symm.trans ((sp_nx_is (c := 112) hx (by decide)).mpr z))), if_neg (fun z => c_90 ((sp_nx_is (c := 105) hx (by decide)).mpr z))]
    rw [hw] at kt kf
    have hx2 : mo_tx I (va_up A 18 (upd (A 18) c (nI 3))) T n := hx.ms ((ms.rf (SI := []) (SA := [18])).a 18 (by decide) _) (by decide) (by decide)
    have lts3 : ∀ i x, (sp_lets 3)[i]? = some x → mo_ltr (13 + i) = nI x ∧ x < 128 := lx 3 13 (by decide)
    refine sM_18 d_Mo_takesHead_98 (vp_in_nI hc (by decide)) ?_
    refine wp_aload_n d_Mo_takesHead_99 rfl rfl rfl ?_
    refine gM_18 rfl d_Mo_takesHead_100 ?_
    refine wp_iload_n d_Mo_takesHead_103 rfl rfl ?_
    refine lM_18 d_Mo_takesHead_104 (vp_in_nI hc (by decide)) ?_
    rw [nI_clamp (by omega), va_uu]
    refine wp_iconst (v := 2) d_Mo_takesHead_105 rfl ?_
    refine wp_icmp_ne (t := 119) d_Mo_takesHead_106 (by decide) (fun c_106 => ?_) (fun c_106 => absurd c_106 (by decide))
    refine wp_aload_n d_Mo_takesHead_119 rfl rfl rfl ?_
    refine wp_bipush (v := (nI 13)) d_Mo_takesHead_120 (by decide) ?_
    refine wp_iconst (v := (nI 4)) d_Mo_takesHead_122 rfl ?_
    refine wp_callV (r := (R_12, T_12, 70)) (M' := m_Mo_takesWord) (as := [_, _]) (D' := D - 1) (C1 := 0) (C2 := 0) (S1 := 0) (S2 := 0) d_Mo_takesHead_123 rfl w_1257 w_1259 w_22 hm_0 k_Mo_takesWord (Nat.le_of_ble_eq_true rfl) rfl (Nat.le_of_ble_eq_true rfl) (by omega) rfl rfl ?_
    refine c_Mo_takesWord (by omega) (n := n) (T := T) (p := p) (fr := 13) (many := 4) (l := sp_lets 3) hx2 hp hpn (by decide) rfl (lts3) (fun p' ht I2 hm2 e14 => ?_) (fun p' ht I2 hm2 e14 => ?_)
    · skip
      refine wp_ireturn d_Mo_takesHead_126 rfl rfl ?_
      exact kt p' (by rw [sp_hd, hw]; exact ht) I2 hm2 e14
    · skip
      refine wp_ireturn d_Mo_takesHead_126 rfl rfl ?_
      exact kf p' (by rw [sp_hd, hw]; exact ht) I2 hm2 e14
  · skip
    refine wp_iconst (v := (nI 2)) d_Mo_takesHead_93 rfl ?_
    refine wp_goto (t := 98) d_Mo_takesHead_94 (by decide) ?_
    have hw : sp_wd T n p = 2 := by
      first
        | (have h114 : sp_is T n p 114 := (sp_nx_is (c := 114) hx (by decide)).mp (by first | exact e_4.symm.trans s_4_114 | exact e_4.trans s_4_114)
           rw [sp_wd, if_neg (fun z => by have := z.2; have := h114.2; omega), if_neg (fun z => by have := z.2; have := h114.2; omega), if_neg (fun z => by have := z.2; have := h114.2; omega), if_pos ((sp_nx_is (c := 105) hx (by decide)).mp c_90)])
        | rw [sp_wd, if_neg (fun z => s_4_115 (by first | exact e_4.trans ((sp_nx_is (c := 115) hx (by decide)).mpr z) | exact e_4.symm.trans ((sp_nx_is (c := 115) hx (by decide)).mpr z))), if_neg (fun z => s_4_113 (by first | exact e_4.trans ((sp_nx_is (c := 113) hx (by decide)).mpr z) | exact e_4.symm.trans ((sp_nx_is (c := 113) hx (by decide)).mpr z))), if_neg (fun z => s_4_112 (by first | exact e_4.trans ((sp_nx_is (c := 112) hx (by decide)).mpr z) | exact e_4.symm.trans ((sp_nx_is (c := 112) hx (by decide)).mpr z))), if_pos ((sp_nx_is (c := 105) hx (by decide)).mp c_90)]
    rw [hw] at kt kf
    have hx2 : mo_tx I (va_up A 18 (upd (A 18) c (nI 2))) T n := hx.ms ((ms.rf (SI := []) (SA := [18])).a 18 (by decide) _) (by decide) (by decide)
    have lts2 : ∀ i x, (sp_lets 2)[i]? = some x → mo_ltr (9 + i) = nI x ∧ x < 128 := lx 2 9 (by decide)
    refine sM_18 d_Mo_takesHead_98 (vp_in_nI hc (by decide)) ?_
    refine wp_aload_n d_Mo_takesHead_99 rfl rfl rfl ?_
    refine gM_18 rfl d_Mo_takesHead_100 ?_
    refine wp_iload_n d_Mo_takesHead_103 rfl rfl ?_
    refine lM_18 d_Mo_takesHead_104 (vp_in_nI hc (by decide)) ?_
    rw [nI_clamp (by omega), va_uu]
    refine wp_iconst (v := 2) d_Mo_takesHead_105 rfl ?_
    refine wp_icmp_ne (t := 119) d_Mo_takesHead_106 (by decide) (fun c_106 => absurd rfl c_106) (fun c_106 => ?_)
    refine wp_aload_n d_Mo_takesHead_109 rfl rfl rfl ?_
    refine wp_bipush (v := (nI 9)) d_Mo_takesHead_110 (by decide) ?_
    refine wp_iconst (v := (nI 4)) d_Mo_takesHead_112 rfl ?_
    refine wp_callV (r := (R_12, T_12, 70)) (M' := m_Mo_takesWord) (as := [_, _]) (D' := D - 1) (C1 := 0) (C2 := 0) (S1 := 0) (S2 := 0) d_Mo_takesHead_113 rfl w_1257 w_1259 w_22 hm_0 k_Mo_takesWord (Nat.le_of_ble_eq_true rfl) rfl (Nat.le_of_ble_eq_true rfl) (by omega) rfl rfl ?_
    refine c_Mo_takesWord (by omega) (n := n) (T := T) (p := p) (fr := 9) (many := 4) (l := sp_lets 2) hx2 hp hpn (by decide) rfl (lts2) (fun p' ht I2 hm2 e14 => ?_) (fun p' ht I2 hm2 e14 => ?_)
    · skip
      refine wp_goto (t := 126) d_Mo_takesHead_116 (by decide) ?_
      refine wp_ireturn d_Mo_takesHead_126 rfl rfl ?_
      exact kt p' (by rw [sp_hd, hw]; exact ht) I2 hm2 e14
    · skip
      refine wp_goto (t := 126) d_Mo_takesHead_116 (by decide) ?_
      refine wp_ireturn d_Mo_takesHead_126 rfl rfl ?_
      exact kf p' (by rw [sp_hd, hw]; exact ht) I2 hm2 e14
end MON
