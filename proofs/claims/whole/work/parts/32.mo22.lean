section MOM
variable {G : px_G} {D : Nat} {X E : px_H} {I : Nat → Int32} {A : Nat → Nat → Int32} {L : Nat → Nat → Int64} {Q : Option Value → px_H → Prop}
theorem l_Mo_S1 {T : Nat → Nat} {n s0 c f : Nat} {q : Nat} (ih0 : mo_S0 G D X E I A L Q T n s0 c f q) (ih3 : mo_S3 G D X E I A L Q T n s0 c f q) : mo_S1 G D X E I A L Q T n s0 c f (q + 1) := by
  intro p W o I1 A1 ht1 hq hop hR k kf
  have hpn := hR.2.2.2.1
  have hP : sp_P T n (q + 1) 1 (sp_op W) p = (match sp_P T n q 0 (sp_op W) p with
      | (some l, p') => (match sp_P T n q 3 (sp_op W) p' with
        | (some l2, p'') => (some (l ++ l2), p'')
        | (none, p'') => (none, p''))
      | (none, p') => (none, p')) := by rw [sp_P, if_neg (by decide), if_pos rfl]; rfl
  refine ih0 p W o I1 A1 (by omega) hop hR (fun p1 l I2 A2 h hR2 => ?_) (fun p' I2 A2 h hF => by simp only [h] at hP; exact kf p' I2 A2 hP hF)
  have hb := sp_P_b q 0 (sp_op W) p l p1 hpn h
  rw [(sp_w1 ht1).1, (sp_w1 ht1).2, List.append_nil] at hR2
  simp only [h] at hP
  refine ih3 false p1 W (o ++ l) I2 A2 ht1 (by omega) hop hR2 (fun p2 l2 e' o' I3 A3 h2 h38 hoo hR3 => ?_) (fun p' I3 A3 h2 hF => by simp only [h2] at hP; exact kf p' I3 A3 hP hF)
  simp only [h2] at hP
  refine k p2 (l ++ l2) e' o' I3 A3 hP h38 ?_ hR3
  rw [hoo, show sp_pE false 6001 = [] from rfl, List.append_nil, List.append_assoc]
theorem l_Mo_S2 {T : Nat → Nat} {n s0 c f : Nat} {q : Nat} (ih1 : mo_S1 G D X E I A L Q T n s0 c f q) (ih4 : mo_S4 G D X E I A L Q T n s0 c f q) : mo_S2 G D X E I A L Q T n s0 c f (q + 1) := by
  intro p W o I1 A1 ht2 hq hop hR k kf
  have hpn := hR.2.2.2.1
  have hP : sp_P T n (q + 1) 2 (sp_op W) p = (match sp_P T n q 1 (sp_op W) p with
      | (some l, p') => (match sp_P T n q 4 (sp_op W) p' with
        | (some l2, p'') => (some (l ++ l2), p'')
        | (none, p'') => (none, p''))
      | (none, p') => (none, p')) := by rw [sp_P, if_neg (by decide), if_neg (by decide), if_pos rfl]; rfl
  refine ih1 p W o I1 A1 ht2.t1 (by omega) hop hR (fun p1 l e o1 I2 A2 h h38 hoo hR2 => ?_) (fun p' I2 A2 h hF => by simp only [h] at hP; exact kf p' I2 A2 hP hF)
  have hb := sp_P_b q 1 (sp_op W) p l p1 hpn h
  simp only [h] at hP
  refine ih4 e false p1 W o1 I2 A2 ht2 (by omega) hop h38 hR2 (fun p2 l2 e' g' o' I3 A3 h2 h38' h124' hoo2 hR3 => ?_) (fun p' I3 A3 h2 hF => by simp only [h2] at hP; exact kf p' I3 A3 hP hF)
  simp only [h2] at hP
  refine k p2 (l ++ l2) e' g' o' I3 A3 hP h38' h124' ?_ hR3
  rw [hoo2, show sp_pE false 6002 = [] from rfl, List.append_nil, hoo, List.append_assoc]
theorem l_Mo_S3 {T : Nat → Nat} {n s0 c f : Nat} {q : Nat} (hD : 4 ≤ D) (hf : f ≤ 5) (hn : n ≤ 100) (hs0 : 100 * f ≤ s0) (hx : mo_tx I A T n) (hc : c < 60) (ih0 : mo_S0 G D X E I A L Q T n s0 c f q) (ih3 : mo_S3 G D X E I A L Q T n s0 c f q) : mo_S3 G D X E I A L Q T n s0 c f (q + 1) := by
  intro e p W o I1 A1 ht1 hq hop hR k kf
  have hP : sp_P T n (q + 1) 3 (sp_op W) p = (if sp_is T n p 38 then (match sp_P T n q 0 (sp_op W) (p + 1) with
      | (some l, p') => (match sp_P T n q 3 (sp_op W) p' with
        | (some l2, p'') => (some (l ++ [6001] ++ l2), p'')
        | (none, p'') => (none, p''))
      | (none, p') => (none, p')) else (some [], p)) := by rw [sp_P, if_neg (by decide), if_neg (by decide), if_neg (by decide), if_pos rfl]; rfl
  by_cases h38 : sp_is T n p 38
  · rw [if_pos h38] at hP
    refine l_Mo_sep (V := sp_pW e 38 W) (W := W) hD hf hn hs0 hx hc (Or.inl rfl) h38 (sp_s38 ht1).1 hR (fun I2 A2 hR2 => ?_)
    rw [(sp_s38 ht1).2] at hR2
    have hopW : sp_op (38 :: W) = sp_op W := Nat.zero_add _
    have hpn := h38.1
    refine ih0 (p + 1) (38 :: W) (o ++ sp_pE e 6001) I2 A2 (by omega) (by rw [hopW]; exact hop) hR2 (fun p1 l I3 A3 h hR3 => ?_) (fun p' I3 A3 h hF => by rw [hopW] at h; simp only [h] at hP; exact kf p' I3 A3 hP hF)
    rw [hopW] at h
    have hb := sp_P_b q 0 (sp_op W) (p + 1) l p1 hpn h
    simp only [h] at hP
    rw [show sp_wW (38 :: W) = 38 :: W from rfl, show sp_wE (38 :: W) = [] from rfl, List.append_nil] at hR3
    refine ih3 true p1 W (o ++ sp_pE e 6001 ++ l) I3 A3 ht1 (by omega) hop hR3 (fun p2 l2 e' o' I4 A4 h2 h38' hoo hR4 => ?_) (fun p' I4 A4 h2 hF => by simp only [h2] at hP; exact kf p' I4 A4 hP hF)
    simp only [h2] at hP
    refine k p2 (l ++ [6001] ++ l2) e' o' I4 A4 hP h38' ?_ hR4
    rw [hoo, show sp_pE true 6001 = [6001] from rfl]
    simp only [List.append_assoc]
  · rw [if_neg h38] at hP
    exact k p [] e o I1 A1 hP h38 (by rw [List.append_nil]) hR
theorem l_Mo_S4 {T : Nat → Nat} {n s0 c f : Nat} {q : Nat} (hD : 4 ≤ D) (hf : f ≤ 5) (hn : n ≤ 100) (hs0 : 100 * f ≤ s0) (hx : mo_tx I A T n) (hc : c < 60) (ih1 : mo_S1 G D X E I A L Q T n s0 c f q) (ih4 : mo_S4 G D X E I A L Q T n s0 c f q) : mo_S4 G D X E I A L Q T n s0 c f (q + 1) := by
  intro e g p W o I1 A1 ht2 hq hop h38 hR k kf
  have hP : sp_P T n (q + 1) 4 (sp_op W) p = (if sp_is T n p 124 then (match sp_P T n q 1 (sp_op W) (p + 1) with
      | (some l, p') => (match sp_P T n q 4 (sp_op W) p' with
        | (some l2, p'') => (some (l ++ [6002] ++ l2), p'')
        | (none, p'') => (none, p''))
      | (none, p') => (none, p')) else (some [], p)) := by rw [sp_P, if_neg (by decide), if_neg (by decide), if_neg (by decide), if_neg (by decide)]; rfl
  by_cases h124 : sp_is T n p 124
  · rw [if_pos h124] at hP
    refine l_Mo_sep (V := sp_pW e 38 (sp_pW g 124 W)) (W := W) hD hf hn hs0 hx hc (Or.inr rfl) h124 (sp_s124 ht2).1 hR (fun I2 A2 hR2 => ?_)
    rw [(sp_s124 ht2).2, ← List.append_assoc] at hR2
    have hopW : sp_op (124 :: W) = sp_op W := Nat.zero_add _
    have hpn := h124.1
    refine ih1 (p + 1) (124 :: W) (o ++ sp_pE e 6001 ++ sp_pE g 6002) I2 A2 ⟨by decide, by decide⟩ (by omega) (by rw [hopW]; exact hop) hR2 (fun p1 l e1 o1 I3 A3 h h38' hoo hR3 => ?_) (fun p' I3 A3 h hF => by rw [hopW] at h; simp only [h] at hP; exact kf p' I3 A3 hP hF)
    rw [hopW] at h
    have hb := sp_P_b q 1 (sp_op W) (p + 1) l p1 hpn h
    simp only [h] at hP
    refine ih4 e1 true p1 W o1 I3 A3 ht2 (by omega) hop h38' hR3 (fun p2 l2 e' g' o' I4 A4 h2 h38'' h124'' hoo2 hR4 => ?_) (fun p' I4 A4 h2 hF => by simp only [h2] at hP; exact kf p' I4 A4 hP hF)
    simp only [h2] at hP
    refine k p2 (l ++ [6002] ++ l2) e' g' o' I4 A4 hP h38'' h124'' ?_ hR4
    rw [hoo2, hoo, show sp_pE true 6002 = [6002] from rfl]
    simp only [List.append_assoc]
  · rw [if_neg h124] at hP
    exact k p [] e g o I1 A1 hP h38 h124 (by rw [List.append_nil]) hR
theorem l_Mo_SS {T : Nat → Nat} {n s0 c f : Nat} (hD : 4 ≤ D) (hf : f ≤ 5) (hn : n ≤ 100) (hs0 : 100 * f ≤ s0) (hx : mo_tx I A T n) (hc : c < 60) : ∀ q : Nat, mo_S0 G D X E I A L Q T n s0 c f q ∧ mo_S1 G D X E I A L Q T n s0 c f q ∧ mo_S2 G D X E I A L Q T n s0 c f q ∧ mo_S3 G D X E I A L Q T n s0 c f q ∧ mo_S4 G D X E I A L Q T n s0 c f q := by
  intro q
  induction q with
  | zero => exact ⟨fun p W o I1 A1 h => by omega, fun p W o I1 A1 _ h => by omega, fun p W o I1 A1 _ h => by omega, fun e p W o I1 A1 _ h => by omega, fun e g p W o I1 A1 _ h => by omega⟩
  | succ q ih => exact ⟨l_Mo_S0 hD hf hn hs0 hx hc ih.1 ih.2.2.1, l_Mo_S1 ih.1 ih.2.2.2.1, l_Mo_S2 ih.2.1 ih.2.2.2.2, l_Mo_S3 hD hf hn hs0 hx hc ih.1 ih.2.2.2.1, l_Mo_S4 hD hf hn hs0 hx hc ih.2.1 ih.2.2.2.2⟩
def sp_E (T : Nat → Nat) (n p : Nat) : Option (List Nat) × Nat := sp_P T n 403 2 0 p
set_option maxRecDepth 4000 in
theorem c_Mo_takesE {T : Nat → Nat} {n p s0 c f : Nat} (hD : 4 ≤ D) (hf : f ≤ 5) (hs0 : 100 * f ≤ s0) (hx : mo_tx I A T n) (hc : c < 60) (hp : I 14 = nI p) (hpn : p ≤ n) (hs : I 24 = nI s0) (hle : s0 ≤ 100 * f + p) (kt : ∀ (l : List Nat) (p' : Nat), sp_E T n p = (some l, p') → ∀ (I2 : Nat → Int32) (A2 : Nat → Nat → Int32), ms [14, 15, 24, 25, 26] [20, 21, 22, 23] I I2 A A2 → (∀ j, j ≠ c → A2 20 j = A 20 j ∧ A2 21 j = A 21 j) → (∀ j, j < s0 → A2 22 j = A 22 j) → I2 14 = nI p' → A2 20 c = nI s0 → A2 21 c = nI (s0 + l.length) → I2 24 = nI (s0 + l.length) → (∀ i t, l[i]? = some t → A2 22 (s0 + i) = mo_enc t) → Q (some (.int 1)) (HM X I2 A2 L E)) (kf : ∀ p', sp_E T n p = (none, p') → ∀ (I2 : Nat → Int32) (A2 : Nat → Nat → Int32), ms [14, 15, 24, 25, 26] [20, 21, 22, 23] I I2 A A2 → (∀ j, j ≠ c → A2 20 j = A 20 j ∧ A2 21 j = A 21 j) → (∀ j, j < s0 → A2 22 j = A 22 j) → I2 14 = nI p' → Q (some (.int 0)) (HM X I2 A2 L E)) : px_W G D 0 0 m_Mo_takesE 0 (px_ent 4 [.ref X.length, .int (nI c)]) [] (HM X I A L E) Q := by
  show px_W _ _ _ _ _ _ [some (.ref X.length), some (.int (nI c)), none, none] [] _ _
  refine wp_aload_n d_Mo_takesE_0 rfl rfl rfl ?_
  refine wp_iconst (v := 0) d_Mo_takesE_1 rfl ?_
  refine pM_25 rfl d_Mo_takesE_2 ?_
  refine wp_aload_n d_Mo_takesE_5 rfl rfl rfl ?_
  refine wp_iconst (v := 0) d_Mo_takesE_6 rfl ?_
  refine pM_26 rfl d_Mo_takesE_7 ?_
  refine wp_aload_n d_Mo_takesE_10 rfl rfl rfl ?_
  refine gM_20 rfl d_Mo_takesE_11 ?_
  refine wp_iload_n d_Mo_takesE_14 rfl rfl ?_
  refine wp_aload_n d_Mo_takesE_15 rfl rfl rfl ?_
  refine gM_24 rfl d_Mo_takesE_16 ?_
  refine sM_20 d_Mo_takesE_19 (vp_in_nI hc (by decide)) ?_
  refine wp_iconst (v := 1) d_Mo_takesE_20 rfl ?_
  refine wp_istore_n (ls' := [_, _, _, _]) d_Mo_takesE_21 rfl (by decide) rfl ?_
  rw [nI_clamp (by omega), show upd (upd I 25 0) 26 0 24 = nI s0 from hs]
  have hx0 : mo_tx (upd (upd I 25 0) 26 0) (va_up A 20 (upd (A 20) c (nI s0))) T n := hx.ms (((ms.rf (SI := [25, 26]) (SA := [20])).i 25 (by decide) _ |>.i 26 (by decide) _).a 20 (by decide) _) (by decide) (by decide)
  have hmm0 : ms [14, 15, 24, 25, 26] [20, 21, 22, 23] I (upd (upd I 25 0) 26 0) A (va_up A 20 (upd (A 20) c (nI s0))) := ((ms.rf.i 25 (by decide) _).i 26 (by decide) _).a 20 (by decide) _
  have hR : mo_R (upd (upd I 25 0) 26 0) (va_up A 20 (upd (A 20) c (nI s0))) (upd (upd I 25 0) 26 0) (va_up A 20 (upd (A 20) c (nI s0))) n s0 c f p [] [] := ⟨ms.rf, fun _ _ => rfl, hp, hpn, hs, rfl, rfl, trivial, fun _ _ => rfl, (fun i t h => by cases h), hle⟩
  have h20 : ∀ (A2 : Nat → Nat → Int32), A2 20 = va_up A 20 (upd (A 20) c (nI s0)) 20 → (∀ j, j ≠ c → A2 20 j = A 20 j) ∧ A2 20 c = nI s0 := fun A2 h => ⟨fun j hj => by
    rw [h]
    show (if j = c then nI s0 else A 20 j) = A 20 j
    exact if_neg hj, by
    rw [h]
    show (if c = c then nI s0 else A 20 c) = nI s0
    exact if_pos rfl⟩
  refine (l_Mo_SS (I := upd (upd I 25 0) 26 0) (A := va_up A 20 (upd (A 20) c (nI s0))) hD hf hx.2.1 hs0 hx0 hc 403).2.2.1 p [] [] _ _ trivial (by have := hx.2.1; omega) (by decide) hR (fun p' l e g o' I2 A2 h h38 h124 hoo hR2 => ?_) (fun p' I2 A2 h hF => ?_)
  · refine l_Mo_fin (W := []) hD hf hx.2.1 hs0 hx0 hc trivial h38 h124 hR2 (fun I3 A3 hR3 h21c => ?_)
    rw [hoo, List.nil_append] at hR3 h21c
    obtain ⟨hm, h21, h14, hpn2, h24, h25, h26, hst, hs1, ho, hle2⟩ := hR3
    refine wp_aload_n d_Mo_takesE_178 rfl rfl rfl ?_
    refine gM_25 rfl d_Mo_takesE_179 ?_
    rw [h25]
    refine wp_if_ne (t := 187) d_Mo_takesE_182 (by decide) (fun c_182 => absurd rfl c_182) (fun c_182 => ?_)
    refine wp_iconst (v := 1) d_Mo_takesE_185 rfl ?_
    refine wp_ireturn d_Mo_takesE_186 rfl rfl ?_
    have h20b := h20 A3 (hm.2 20 (by decide))
    exact kt l p' h I3 A3 (hmm0.tr (hm.mo (by decide) (by decide))) (fun j hj => ⟨h20b.1 j hj, h21 j hj⟩) hs1 h14 h20b.2 h21c h24 ho
  · have h20b := h20 A2 (hF.1.2 20 (by decide))
    exact kf p' h I2 A2 (hmm0.tr (hF.1.mo (by decide) (by decide))) (fun j hj => ⟨h20b.1 j hj, hF.2.1 j hj⟩) hF.2.2.2 hF.2.2.1
end MOM
