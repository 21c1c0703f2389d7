/-! THE CLASS'S HEAP. Numbers J, rows of numbers B, rows of references W, scaffolds in use V, tapes' rows Y; by s: 0 now, 1 image, 2 start, 3 run, 4 the trial's (and scaffolds, bestRow), 5 the class's own, 6.. the tapes -/
abbrev tc_K : Type := (Nat → Nat → Int32) × (Nat → Nat → Nat → Int32) × (Nat → Nat → Option Nat) × (Nat → Nat) × (Nat → Nat → Int64)
def tc_p (s : Nat) : Nat := 7 + 8 * s + s / 2
def SF (p : Nat) (j : Nat → Int32) (v : Nat) : List Value := [.ref (p + 1), .ref (p + 2), .ref (p + 3), .ref (p + 4), .ref (p + 5), .ref (p + 6), .ref (p + 7), .int (j 7), .int (j 8), .int (j 9), .int (j 10), .int (j 11), .int (j 12), .int (j 13), .ref v]
abbrev rA (ty : String) (n : Nat) (f : Nat → Option Nat) : px_E := .inl (.object ty, n, .inr (.inr (.inr (.inr f))))
abbrev iA (n : Nat) (f : Nat → Int32) : px_E := .inl (.int, n, .inl f)
def SA (b : Nat → Nat → Int32) (w : Nat → Option Nat) : px_H := [rA "TubeChain$Man" 6 w, iA 6 (b 1), iA 6 (b 2), iA 24 (b 3), iA 6 (b 4), iA 6 (b 5), iA 8 (b 6)]
def SB (p : Nat) (j : Nat → Int32) (b : Nat → Nat → Int32) (w : Nat → Option Nat) (v : Nat) : px_H := .inr (1, SF p j v) :: SA b w
def TF (j : Nat → Int32) : List Value := [.ref 7, .ref 15, .ref 23, .ref 41, .ref 42, .ref 43, .ref 56, .ref 57, .int (j 8), .int (j 9), .int (j 10)]
def RF (j : Nat → Int32) : List Value := [.ref 24, .ref 32, .ref 40, .int (j 3), .int (j 4), .int (j 5)]
def PL (pv : Nat → Int32) : px_H := [.inr (3, [.ref 2, .ref 3, .ref 4, .ref 5, .int 0, .int 0, .int 0, .int 5, .int 3, .int 40]), iA 100 (fun _ => 0), iA 6 pv, .inl (.long, 0, .inr (.inl fun _ => 0)), .inl (.char, 0, .inl fun _ => 0), .inr (5, [.int 0, .int 0])]
def tc_tp : Nat → Option Nat := va_up (va_up (va_up (va_up (va_up (va_up (fun _ => none) 0 (some 44)) 1 (some 46)) 2 (some 48)) 3 (some 50)) 4 (some 52)) 5 (some 54)
def TP (i : Nat) (j : Nat → Int32) : List Value := [.ref (45 + 2 * i), .int (j 1), .int (j 2)]
def TL (K : tc_K) : px_H := [iA 6 (K.2.1 4 2), rA "TubeChain$Scaffold" 6 (K.2.2.1 4), .inl (.char, 100, .inl (K.2.1 5 4)), rA "TubeChain$Tape" 6 tc_tp, .inr (4, TP 0 (K.1 6)), .inl (.long, 60, .inr (.inl (K.2.2.2.2 0))), .inr (4, TP 1 (K.1 7)), .inl (.long, 60, .inr (.inl (K.2.2.2.2 1))), .inr (4, TP 2 (K.1 8)), .inl (.long, 60, .inr (.inl (K.2.2.2.2 2))), .inr (4, TP 3 (K.1 9)), .inl (.long, 60, .inr (.inl (K.2.2.2.2 3))), .inr (4, TP 4 (K.1 10)), .inl (.long, 60, .inr (.inl (K.2.2.2.2 4))), .inr (4, TP 5 (K.1 11)), .inl (.long, 60, .inr (.inl (K.2.2.2.2 5))), iA 21 (K.2.1 5 6), iA 6 (K.2.1 4 3)]
def HC (K : tc_K) (pv : Nat → Int32) : px_H := .inr (0, TF (K.1 5)) :: (PL pv ++ (SB 7 (K.1 0) (K.2.1 0) (K.2.2.1 0) (K.2.2.2.1 0) ++ (SB 15 (K.1 1) (K.2.1 1) (K.2.2.1 1) (K.2.2.2.1 1) ++ (.inr (2, RF (K.1 4)) :: (SB 24 (K.1 2) (K.2.1 2) (K.2.2.1 2) (K.2.2.2.1 2) ++ (SB 32 (K.1 3) (K.2.1 3) (K.2.2.1 3) (K.2.2.2.1 3) ++ TL K))))))
/-- the reference's cells MZ behind it, then what is made later -/
def HT (K : tc_K) (MZ : px_H) (r : (Nat → Int32) × px_H) : px_H := HC K r.1 ++ (MZ ++ r.2)
def kJ (K : tc_K) (s : Nat) (j : Nat → Int32) : tc_K := (va_up K.1 s j, K.2)
def kB (K : tc_K) (s : Nat) (b : Nat → Nat → Int32) : tc_K := (K.1, va_up K.2.1 s b, K.2.2)
def kW (K : tc_K) (s : Nat) (w : Nat → Option Nat) : tc_K := (K.1, K.2.1, va_up K.2.2.1 s w, K.2.2.2)
def kY (K : tc_K) (i : Nat) (y : Nat → Int64) : tc_K := (K.1, K.2.1, K.2.2.1, K.2.2.2.1, va_up K.2.2.2.2 i y)
/-- with another site s -/
def ks (K : tc_K) (s : Nat) (j : Nat → Int32) (b : Nat → Nat → Int32) (w : Nat → Option Nat) (v : Nat) : tc_K := (va_up K.1 s j, va_up K.2.1 s b, va_up K.2.2.1 s w, va_up K.2.2.2.1 s v, K.2.2.2.2)
theorem va_id {α : Type} (f : Nat → α) (k : Nat) : va_up f k (f k) = f := by
  funext i
  show (if i = k then f k else f i) = f i
  by_cases h : i = k
  · rw [if_pos h, h]
  · exact if_neg h
theorem va_tw {α : Type} (f : Nat → α) (k : Nat) (a b : α) : va_up (va_up f k a) k b = va_up f k b := by
  funext i
  show (if i = k then b else (if i = k then a else f i)) = if i = k then b else f i
  by_cases h : i = k
  · rw [if_pos h, if_pos h]
  · rw [if_neg h, if_neg h, if_neg h]
theorem ks_id (K : tc_K) (s : Nat) : ks K s (K.1 s) (K.2.1 s) (K.2.2.1 s) (K.2.2.2.1 s) = K := by
  unfold ks
  rw [va_id, va_id, va_id, va_id]
theorem ks_tw (K : tc_K) (s : Nat) (j j' : Nat → Int32) (b b' : Nat → Nat → Int32) (w w' : Nat → Option Nat) (v v' : Nat) : ks (ks K s j b w v) s j' b' w' v' = ks K s j' b' w' v' := by
  unfold ks
  simp only [va_tw]
theorem ks_s (K : tc_K) (s : Nat) (j : Nat → Int32) (b : Nat → Nat → Int32) (w : Nat → Option Nat) (v : Nat) : (ks K s j b w v).1 s = j ∧ (ks K s j b w v).2.1 s = b ∧ (ks K s j b w v).2.2.1 s = w ∧ (ks K s j b w v).2.2.2.1 s = v := ⟨if_pos rfl, if_pos rfl, if_pos rfl, if_pos rfl⟩
/-- what stays: all but the parts S -/
def tk (S : List Nat) (K K' : tc_K) : Prop := (∀ s, s ∉ S → K'.1 s = K.1 s ∧ K'.2.1 s = K.2.1 s ∧ K'.2.2.1 s = K.2.2.1 s ∧ K'.2.2.2.1 s = K.2.2.2.1 s) ∧ K'.2.2.2.2 = K.2.2.2.2 ∧ K'.2.2.1 4 = K.2.2.1 4
theorem tk.rf {S : List Nat} {K : tc_K} : tk S K K := ⟨fun _ _ => ⟨rfl, rfl, rfl, rfl⟩, rfl, rfl⟩
theorem tk.tr {S : List Nat} {K K1 K2 : tc_K} (h : tk S K K1) (h2 : tk S K1 K2) : tk S K K2 := ⟨fun s hs => ⟨(h2.1 s hs).1.trans (h.1 s hs).1, (h2.1 s hs).2.1.trans (h.1 s hs).2.1, (h2.1 s hs).2.2.1.trans (h.1 s hs).2.2.1, (h2.1 s hs).2.2.2.trans (h.1 s hs).2.2.2⟩, h2.2.1.trans h.2.1, h2.2.2.trans h.2.2⟩
theorem tk.mo {S T : List Nat} {K K1 : tc_K} (h : tk S K K1) (hs : ∀ k, k ∈ S → k ∈ T) : tk T K K1 := ⟨fun s hn => h.1 s (fun z => hn (hs s z)), h.2⟩
theorem tk.s {S : List Nat} {K K1 : tc_K} (h : tk S K K1) (s : Nat) (hs : s ∈ S) (j : Nat → Int32) (b : Nat → Nat → Int32) (w : Nat → Option Nat) (v : Nat) (h4 : 4 ≠ s := by decide) : tk S K (ks K1 s j b w v) := ⟨fun q hq => by
  have hn : q ≠ s := fun e => hq (e ▸ hs)
  exact ⟨(if_neg hn).trans (h.1 q hq).1, (if_neg hn).trans (h.1 q hq).2.1, (if_neg hn).trans (h.1 q hq).2.2.1, (if_neg hn).trans (h.1 q hq).2.2.2⟩, h.2.1, (if_neg h4).trans h.2.2⟩
theorem tk.j {S : List Nat} {K K1 : tc_K} (h : tk S K K1) (s : Nat) (hs : s ∈ S) (j : Nat → Int32) : tk S K (kJ K1 s j) := ⟨fun q hq => ⟨(if_neg (show ¬ q = s from fun e => hq (e ▸ hs))).trans (h.1 q hq).1, (h.1 q hq).2⟩, h.2⟩
theorem tk.b {S : List Nat} {K K1 : tc_K} (h : tk S K K1) (s : Nat) (hs : s ∈ S) (b : Nat → Nat → Int32) : tk S K (kB K1 s b) := ⟨fun q hq => ⟨(h.1 q hq).1, (if_neg (show ¬ q = s from fun e => hq (e ▸ hs))).trans (h.1 q hq).2.1, (h.1 q hq).2.2⟩, h.2⟩
theorem hc_len (K : tc_K) (pv : Nat → Int32) : (HC K pv).length = 58 := rfl
theorem ht_len (K : tc_K) (MZ : px_H) (r : (Nat → Int32) × px_H) : (HT K MZ r).length = 58 + (MZ.length + r.2.length) := by
  unfold HT
  rw [List.length_append, List.length_append, hc_len]
theorem ht_lo {K : tc_K} {MZ : px_H} {r : (Nat → Int32) × px_H} {q : Nat} {e : px_E} (h : (HC K r.1)[q]? = some e) : (HT K MZ r)[q]? = some e := by
  unfold HT
  rw [List.getElem?_append_left (List.getElem?_eq_some_iff.mp h).1]
  exact h
theorem ht_E {K : tc_K} {MZ : px_H} {r : (Nat → Int32) × px_H} {i : Nat} (hz : MZ.length = 39) : (HT K MZ r)[97 + i]? = r.2[i]? := by
  unfold HT
  rw [List.getElem?_append_right (by rw [hc_len]; omega), List.getElem?_append_right (by rw [hc_len]; omega), hc_len, hz, show 97 + i - 58 - 39 = i by omega]
theorem ht_st {K K' : tc_K} {MZ : px_H} {r : (Nat → Int32) × px_H} {pv' : Nat → Int32} {q : Nat} {e : px_E} (hq : q < 58) (h : (HC K r.1).set q e = HC K' pv') : (HT K MZ r).set q e = HT K' MZ (pv', r.2) := by
  unfold HT
  rw [List.set_append_left _ _ (by rw [hc_len]; exact hq), h]
theorem ht_sE {K : tc_K} {MZ : px_H} {r : (Nat → Int32) × px_H} {i : Nat} {e : px_E} (hz : MZ.length = 39) : (HT K MZ r).set (97 + i) e = HT K MZ (r.1, r.2.set i e) := by
  unfold HT
  rw [List.set_append_right _ _ (by rw [hc_len]; omega), hc_len, List.set_append_right _ _ (by omega), hz, show 97 + i - 58 - 39 = i by omega]
theorem ht_app {K : tc_K} {MZ : px_H} {r : (Nat → Int32) × px_H} {e : px_E} : HT K MZ r ++ [e] = HT K MZ (r.1, r.2 ++ [e]) := by
  unfold HT
  rw [List.append_assoc, List.append_assoc]
theorem s4 {P : Nat → Prop} (h0 : P 0) (h1 : P 1) (h2 : P 2) (h3 : P 3) : ∀ s, s < 4 → P s := by
  intro s hs
  match s, hs with
  | 0, _ => exact h0
  | 1, _ => exact h1
  | 2, _ => exact h2
  | 3, _ => exact h3
theorem s6 {P : Nat → Prop} (h0 : P 0) (h1 : P 1) (h2 : P 2) (h3 : P 3) (h4 : P 4) (h5 : P 5) : ∀ s, s < 6 → P s := by
  intro s hs
  match s, hs with
  | 0, _ => exact h0
  | 1, _ => exact h1
  | 2, _ => exact h2
  | 3, _ => exact h3
  | 4, _ => exact h4
  | 5, _ => exact h5
theorem hc_s0 (K : tc_K) (pv : Nat → Int32) : ∀ s, s < 4 → (HC K pv)[tc_p s]? = some (.inr (1, SF (tc_p s) (K.1 s) (K.2.2.2.1 s))) := s4 rfl rfl rfl rfl
theorem hc_ss0 (K : tc_K) (pv : Nat → Int32) (j : Nat → Int32) (v : Nat) : ∀ s, s < 4 → (HC K pv).set (tc_p s) (.inr (1, SF (tc_p s) j v)) = HC (ks K s j (K.2.1 s) (K.2.2.1 s) v) pv := s4 rfl rfl rfl rfl
theorem hc_a0 (K : tc_K) (pv : Nat → Int32) : ∀ s, s < 4 → (HC K pv)[tc_p s + 1]? = some (rA "TubeChain$Man" 6 (K.2.2.1 s)) := s4 rfl rfl rfl rfl
theorem hc_sa0 (K : tc_K) (pv : Nat → Int32) (w : Nat → Option Nat) : ∀ s, s < 4 → (HC K pv).set (tc_p s + 1) (rA "TubeChain$Man" 6 w) = HC (ks K s (K.1 s) (K.2.1 s) w (K.2.2.2.1 s)) pv := s4 rfl rfl rfl rfl
theorem hc_a1 (K : tc_K) (pv : Nat → Int32) : ∀ s, s < 4 → (HC K pv)[tc_p s + 2]? = some (iA 6 (K.2.1 s 1)) := s4 rfl rfl rfl rfl
theorem hc_sa1 (K : tc_K) (pv : Nat → Int32) (f : Nat → Int32) : ∀ s, s < 4 → (HC K pv).set (tc_p s + 2) (iA 6 f) = HC (ks K s (K.1 s) (va_up (K.2.1 s) 1 f) (K.2.2.1 s) (K.2.2.2.1 s)) pv := s4 rfl rfl rfl rfl
theorem hc_a2 (K : tc_K) (pv : Nat → Int32) : ∀ s, s < 4 → (HC K pv)[tc_p s + 3]? = some (iA 6 (K.2.1 s 2)) := s4 rfl rfl rfl rfl
theorem hc_sa2 (K : tc_K) (pv : Nat → Int32) (f : Nat → Int32) : ∀ s, s < 4 → (HC K pv).set (tc_p s + 3) (iA 6 f) = HC (ks K s (K.1 s) (va_up (K.2.1 s) 2 f) (K.2.2.1 s) (K.2.2.2.1 s)) pv := s4 rfl rfl rfl rfl
theorem hc_a3 (K : tc_K) (pv : Nat → Int32) : ∀ s, s < 4 → (HC K pv)[tc_p s + 4]? = some (iA 24 (K.2.1 s 3)) := s4 rfl rfl rfl rfl
theorem hc_sa3 (K : tc_K) (pv : Nat → Int32) (f : Nat → Int32) : ∀ s, s < 4 → (HC K pv).set (tc_p s + 4) (iA 24 f) = HC (ks K s (K.1 s) (va_up (K.2.1 s) 3 f) (K.2.2.1 s) (K.2.2.2.1 s)) pv := s4 rfl rfl rfl rfl
theorem hc_a4 (K : tc_K) (pv : Nat → Int32) : ∀ s, s < 4 → (HC K pv)[tc_p s + 5]? = some (iA 6 (K.2.1 s 4)) := s4 rfl rfl rfl rfl
theorem hc_sa4 (K : tc_K) (pv : Nat → Int32) (f : Nat → Int32) : ∀ s, s < 4 → (HC K pv).set (tc_p s + 5) (iA 6 f) = HC (ks K s (K.1 s) (va_up (K.2.1 s) 4 f) (K.2.2.1 s) (K.2.2.2.1 s)) pv := s4 rfl rfl rfl rfl
theorem hc_a5 (K : tc_K) (pv : Nat → Int32) : ∀ s, s < 4 → (HC K pv)[tc_p s + 6]? = some (iA 6 (K.2.1 s 5)) := s4 rfl rfl rfl rfl
theorem hc_sa5 (K : tc_K) (pv : Nat → Int32) (f : Nat → Int32) : ∀ s, s < 4 → (HC K pv).set (tc_p s + 6) (iA 6 f) = HC (ks K s (K.1 s) (va_up (K.2.1 s) 5 f) (K.2.2.1 s) (K.2.2.2.1 s)) pv := s4 rfl rfl rfl rfl
theorem hc_a6 (K : tc_K) (pv : Nat → Int32) : ∀ s, s < 4 → (HC K pv)[tc_p s + 7]? = some (iA 8 (K.2.1 s 6)) := s4 rfl rfl rfl rfl
theorem hc_sa6 (K : tc_K) (pv : Nat → Int32) (f : Nat → Int32) : ∀ s, s < 4 → (HC K pv).set (tc_p s + 7) (iA 8 f) = HC (ks K s (K.1 s) (va_up (K.2.1 s) 6 f) (K.2.2.1 s) (K.2.2.2.1 s)) pv := s4 rfl rfl rfl rfl
theorem ts_0 {K : tc_K} {MZ : px_H} {r : (Nat → Int32) × px_H} {s : Nat} {j : Nat → Int32} {b : Nat → Nat → Int32} {w : Nat → Option Nat} {v : Nat} (hs : s < 4) : (HT (ks K s j b w v) MZ r)[tc_p s]? = some (.inr (1, SF (tc_p s) j v)) := by
  have h := ht_lo (MZ := MZ) (r := r) (hc_s0 (ks K s j b w v) r.1 s hs)
  rw [(ks_s K s j b w v).1, (ks_s K s j b w v).2.2.2] at h
  exact h
theorem ts_s0 {K : tc_K} {MZ : px_H} {r : (Nat → Int32) × px_H} {s : Nat} {j : Nat → Int32} {b : Nat → Nat → Int32} {w : Nat → Option Nat} {v : Nat} {j' : Nat → Int32} {v' : Nat} (hs : s < 4) : (HT (ks K s j b w v) MZ r).set (tc_p s) (.inr (1, SF (tc_p s) j' v')) = HT (ks K s j' b w v') MZ r := by
  have h := ht_st (MZ := MZ) (r := r) (by unfold tc_p; omega) (hc_ss0 (ks K s j b w v) r.1 j' v' s hs)
  rw [(ks_s K s j b w v).2.1, (ks_s K s j b w v).2.2.1, ks_tw] at h
  exact h
theorem ts_a0 {K : tc_K} {MZ : px_H} {r : (Nat → Int32) × px_H} {s : Nat} {j : Nat → Int32} {b : Nat → Nat → Int32} {w : Nat → Option Nat} {v : Nat} (hs : s < 4) : (HT (ks K s j b w v) MZ r)[tc_p s + 1]? = some (rA "TubeChain$Man" 6 w) := by
  have h := ht_lo (MZ := MZ) (r := r) (hc_a0 (ks K s j b w v) r.1 s hs)
  rw [(ks_s K s j b w v).2.2.1] at h
  exact h
theorem ts_sa0 {K : tc_K} {MZ : px_H} {r : (Nat → Int32) × px_H} {s : Nat} {j : Nat → Int32} {b : Nat → Nat → Int32} {w : Nat → Option Nat} {v : Nat} {f : Nat → Option Nat} (hs : s < 4) : (HT (ks K s j b w v) MZ r).set (tc_p s + 1) (rA "TubeChain$Man" 6 f) = HT (ks K s j b f v) MZ r := by
  have h := ht_st (MZ := MZ) (r := r) (q := tc_p s + 1) (by unfold tc_p; omega) (hc_sa0 (ks K s j b w v) r.1 f s hs)
  rw [(ks_s K s j b w v).1, (ks_s K s j b w v).2.1, (ks_s K s j b w v).2.2.2, ks_tw] at h
  exact h
theorem ts_a1 {K : tc_K} {MZ : px_H} {r : (Nat → Int32) × px_H} {s : Nat} {j : Nat → Int32} {b : Nat → Nat → Int32} {w : Nat → Option Nat} {v : Nat} (hs : s < 4) : (HT (ks K s j b w v) MZ r)[tc_p s + 2]? = some (iA 6 (b 1)) := by
  have h := ht_lo (MZ := MZ) (r := r) (hc_a1 (ks K s j b w v) r.1 s hs)
  rw [(ks_s K s j b w v).2.1] at h
  exact h
theorem ts_sa1 {K : tc_K} {MZ : px_H} {r : (Nat → Int32) × px_H} {s : Nat} {j : Nat → Int32} {b : Nat → Nat → Int32} {w : Nat → Option Nat} {v : Nat} {f : Nat → Int32} (hs : s < 4) : (HT (ks K s j b w v) MZ r).set (tc_p s + 2) (iA 6 f) = HT (ks K s j (va_up b 1 f) w v) MZ r := by
  have h := ht_st (MZ := MZ) (r := r) (q := tc_p s + 2) (by unfold tc_p; omega) (hc_sa1 (ks K s j b w v) r.1 f s hs)
  rw [(ks_s K s j b w v).1, (ks_s K s j b w v).2.1, (ks_s K s j b w v).2.2.1, (ks_s K s j b w v).2.2.2, ks_tw] at h
  exact h
theorem ts_a2 {K : tc_K} {MZ : px_H} {r : (Nat → Int32) × px_H} {s : Nat} {j : Nat → Int32} {b : Nat → Nat → Int32} {w : Nat → Option Nat} {v : Nat} (hs : s < 4) : (HT (ks K s j b w v) MZ r)[tc_p s + 3]? = some (iA 6 (b 2)) := by
  have h := ht_lo (MZ := MZ) (r := r) (hc_a2 (ks K s j b w v) r.1 s hs)
  rw [(ks_s K s j b w v).2.1] at h
  exact h
theorem ts_sa2 {K : tc_K} {MZ : px_H} {r : (Nat → Int32) × px_H} {s : Nat} {j : Nat → Int32} {b : Nat → Nat → Int32} {w : Nat → Option Nat} {v : Nat} {f : Nat → Int32} (hs : s < 4) : (HT (ks K s j b w v) MZ r).set (tc_p s + 3) (iA 6 f) = HT (ks K s j (va_up b 2 f) w v) MZ r := by
  have h := ht_st (MZ := MZ) (r := r) (q := tc_p s + 3) (by unfold tc_p; omega) (hc_sa2 (ks K s j b w v) r.1 f s hs)
  rw [(ks_s K s j b w v).1, (ks_s K s j b w v).2.1, (ks_s K s j b w v).2.2.1, (ks_s K s j b w v).2.2.2, ks_tw] at h
  exact h
theorem ts_a3 {K : tc_K} {MZ : px_H} {r : (Nat → Int32) × px_H} {s : Nat} {j : Nat → Int32} {b : Nat → Nat → Int32} {w : Nat → Option Nat} {v : Nat} (hs : s < 4) : (HT (ks K s j b w v) MZ r)[tc_p s + 4]? = some (iA 24 (b 3)) := by
  have h := ht_lo (MZ := MZ) (r := r) (hc_a3 (ks K s j b w v) r.1 s hs)
  rw [(ks_s K s j b w v).2.1] at h
  exact h
theorem ts_sa3 {K : tc_K} {MZ : px_H} {r : (Nat → Int32) × px_H} {s : Nat} {j : Nat → Int32} {b : Nat → Nat → Int32} {w : Nat → Option Nat} {v : Nat} {f : Nat → Int32} (hs : s < 4) : (HT (ks K s j b w v) MZ r).set (tc_p s + 4) (iA 24 f) = HT (ks K s j (va_up b 3 f) w v) MZ r := by
  have h := ht_st (MZ := MZ) (r := r) (q := tc_p s + 4) (by unfold tc_p; omega) (hc_sa3 (ks K s j b w v) r.1 f s hs)
  rw [(ks_s K s j b w v).1, (ks_s K s j b w v).2.1, (ks_s K s j b w v).2.2.1, (ks_s K s j b w v).2.2.2, ks_tw] at h
  exact h
theorem ts_a4 {K : tc_K} {MZ : px_H} {r : (Nat → Int32) × px_H} {s : Nat} {j : Nat → Int32} {b : Nat → Nat → Int32} {w : Nat → Option Nat} {v : Nat} (hs : s < 4) : (HT (ks K s j b w v) MZ r)[tc_p s + 5]? = some (iA 6 (b 4)) := by
  have h := ht_lo (MZ := MZ) (r := r) (hc_a4 (ks K s j b w v) r.1 s hs)
  rw [(ks_s K s j b w v).2.1] at h
  exact h
theorem ts_sa4 {K : tc_K} {MZ : px_H} {r : (Nat → Int32) × px_H} {s : Nat} {j : Nat → Int32} {b : Nat → Nat → Int32} {w : Nat → Option Nat} {v : Nat} {f : Nat → Int32} (hs : s < 4) : (HT (ks K s j b w v) MZ r).set (tc_p s + 5) (iA 6 f) = HT (ks K s j (va_up b 4 f) w v) MZ r := by
  have h := ht_st (MZ := MZ) (r := r) (q := tc_p s + 5) (by unfold tc_p; omega) (hc_sa4 (ks K s j b w v) r.1 f s hs)
  rw [(ks_s K s j b w v).1, (ks_s K s j b w v).2.1, (ks_s K s j b w v).2.2.1, (ks_s K s j b w v).2.2.2, ks_tw] at h
  exact h
theorem ts_a5 {K : tc_K} {MZ : px_H} {r : (Nat → Int32) × px_H} {s : Nat} {j : Nat → Int32} {b : Nat → Nat → Int32} {w : Nat → Option Nat} {v : Nat} (hs : s < 4) : (HT (ks K s j b w v) MZ r)[tc_p s + 6]? = some (iA 6 (b 5)) := by
  have h := ht_lo (MZ := MZ) (r := r) (hc_a5 (ks K s j b w v) r.1 s hs)
  rw [(ks_s K s j b w v).2.1] at h
  exact h
theorem ts_sa5 {K : tc_K} {MZ : px_H} {r : (Nat → Int32) × px_H} {s : Nat} {j : Nat → Int32} {b : Nat → Nat → Int32} {w : Nat → Option Nat} {v : Nat} {f : Nat → Int32} (hs : s < 4) : (HT (ks K s j b w v) MZ r).set (tc_p s + 6) (iA 6 f) = HT (ks K s j (va_up b 5 f) w v) MZ r := by
  have h := ht_st (MZ := MZ) (r := r) (q := tc_p s + 6) (by unfold tc_p; omega) (hc_sa5 (ks K s j b w v) r.1 f s hs)
  rw [(ks_s K s j b w v).1, (ks_s K s j b w v).2.1, (ks_s K s j b w v).2.2.1, (ks_s K s j b w v).2.2.2, ks_tw] at h
  exact h
theorem ts_a6 {K : tc_K} {MZ : px_H} {r : (Nat → Int32) × px_H} {s : Nat} {j : Nat → Int32} {b : Nat → Nat → Int32} {w : Nat → Option Nat} {v : Nat} (hs : s < 4) : (HT (ks K s j b w v) MZ r)[tc_p s + 7]? = some (iA 8 (b 6)) := by
  have h := ht_lo (MZ := MZ) (r := r) (hc_a6 (ks K s j b w v) r.1 s hs)
  rw [(ks_s K s j b w v).2.1] at h
  exact h
theorem ts_sa6 {K : tc_K} {MZ : px_H} {r : (Nat → Int32) × px_H} {s : Nat} {j : Nat → Int32} {b : Nat → Nat → Int32} {w : Nat → Option Nat} {v : Nat} {f : Nat → Int32} (hs : s < 4) : (HT (ks K s j b w v) MZ r).set (tc_p s + 7) (iA 8 f) = HT (ks K s j (va_up b 6 f) w v) MZ r := by
  have h := ht_st (MZ := MZ) (r := r) (q := tc_p s + 7) (by unfold tc_p; omega) (hc_sa6 (ks K s j b w v) r.1 f s hs)
  rw [(ks_s K s j b w v).1, (ks_s K s j b w v).2.1, (ks_s K s j b w v).2.2.1, (ks_s K s j b w v).2.2.2, ks_tw] at h
  exact h
section TCRULES
variable {G : px_G} {D C S : Nat} {M : px_M} {pc idx : Nat} {ls : px_L} {st : List Value} {K : tc_K} {MZ : px_H} {r : (Nat → Int32) × px_H} {s : Nat} {j : Nat → Int32} {b : Nat → Nat → Int32} {w : Nat → Option Nat} {v : Nat} {Q : Option Value → px_H → Prop}
theorem gS_0 (hs : s < 4) (gf : px_GR M.1.cls idx 1 0) (d : decode M.2.1 pc = .ok (.getfield idx, 3)) (k : px_W G D C S M (pc + 3) ls (.ref (tc_p s + 1) :: st) (HT (ks K s j b w v) MZ r) Q) : px_W G D C S M pc ls (.ref (tc_p s) :: st) (HT (ks K s j b w v) MZ r) Q := wp_getf d gf (ts_0 hs) rfl k
theorem gS_1 (hs : s < 4) (gf : px_GR M.1.cls idx 1 1) (d : decode M.2.1 pc = .ok (.getfield idx, 3)) (k : px_W G D C S M (pc + 3) ls (.ref (tc_p s + 2) :: st) (HT (ks K s j b w v) MZ r) Q) : px_W G D C S M pc ls (.ref (tc_p s) :: st) (HT (ks K s j b w v) MZ r) Q := wp_getf d gf (ts_0 hs) rfl k
theorem gS_2 (hs : s < 4) (gf : px_GR M.1.cls idx 1 2) (d : decode M.2.1 pc = .ok (.getfield idx, 3)) (k : px_W G D C S M (pc + 3) ls (.ref (tc_p s + 3) :: st) (HT (ks K s j b w v) MZ r) Q) : px_W G D C S M pc ls (.ref (tc_p s) :: st) (HT (ks K s j b w v) MZ r) Q := wp_getf d gf (ts_0 hs) rfl k
theorem gS_3 (hs : s < 4) (gf : px_GR M.1.cls idx 1 3) (d : decode M.2.1 pc = .ok (.getfield idx, 3)) (k : px_W G D C S M (pc + 3) ls (.ref (tc_p s + 4) :: st) (HT (ks K s j b w v) MZ r) Q) : px_W G D C S M pc ls (.ref (tc_p s) :: st) (HT (ks K s j b w v) MZ r) Q := wp_getf d gf (ts_0 hs) rfl k
theorem gS_4 (hs : s < 4) (gf : px_GR M.1.cls idx 1 4) (d : decode M.2.1 pc = .ok (.getfield idx, 3)) (k : px_W G D C S M (pc + 3) ls (.ref (tc_p s + 5) :: st) (HT (ks K s j b w v) MZ r) Q) : px_W G D C S M pc ls (.ref (tc_p s) :: st) (HT (ks K s j b w v) MZ r) Q := wp_getf d gf (ts_0 hs) rfl k
theorem gS_5 (hs : s < 4) (gf : px_GR M.1.cls idx 1 5) (d : decode M.2.1 pc = .ok (.getfield idx, 3)) (k : px_W G D C S M (pc + 3) ls (.ref (tc_p s + 6) :: st) (HT (ks K s j b w v) MZ r) Q) : px_W G D C S M pc ls (.ref (tc_p s) :: st) (HT (ks K s j b w v) MZ r) Q := wp_getf d gf (ts_0 hs) rfl k
theorem gS_6 (hs : s < 4) (gf : px_GR M.1.cls idx 1 6) (d : decode M.2.1 pc = .ok (.getfield idx, 3)) (k : px_W G D C S M (pc + 3) ls (.ref (tc_p s + 7) :: st) (HT (ks K s j b w v) MZ r) Q) : px_W G D C S M pc ls (.ref (tc_p s) :: st) (HT (ks K s j b w v) MZ r) Q := wp_getf d gf (ts_0 hs) rfl k
theorem gS_7 (hs : s < 4) (gf : px_GR M.1.cls idx 1 7) (d : decode M.2.1 pc = .ok (.getfield idx, 3)) (k : px_W G D C S M (pc + 3) ls (.int (j 7) :: st) (HT (ks K s j b w v) MZ r) Q) : px_W G D C S M pc ls (.ref (tc_p s) :: st) (HT (ks K s j b w v) MZ r) Q := wp_getf d gf (ts_0 hs) rfl k
theorem pS_7 {x : Int32} (hs : s < 4) (gf : px_GF M.1.cls idx 1 7 .int false) (d : decode M.2.1 pc = .ok (.putfield idx, 3)) (k : px_W G D C S M (pc + 3) ls st (HT (ks K s (upd j 7 x) b w v) MZ r) Q) : px_W G D C S M pc ls (.int x :: .ref (tc_p s) :: st) (HT (ks K s j b w v) MZ r) Q := wp_putf d gf (ts_0 hs) (by show _ < 15; decide) rfl rfl (ts_s0 (j' := upd j 7 x) (v' := v) hs) k
theorem gS_8 (hs : s < 4) (gf : px_GR M.1.cls idx 1 8) (d : decode M.2.1 pc = .ok (.getfield idx, 3)) (k : px_W G D C S M (pc + 3) ls (.int (j 8) :: st) (HT (ks K s j b w v) MZ r) Q) : px_W G D C S M pc ls (.ref (tc_p s) :: st) (HT (ks K s j b w v) MZ r) Q := wp_getf d gf (ts_0 hs) rfl k
theorem pS_8 {x : Int32} (hs : s < 4) (gf : px_GF M.1.cls idx 1 8 .int false) (d : decode M.2.1 pc = .ok (.putfield idx, 3)) (k : px_W G D C S M (pc + 3) ls st (HT (ks K s (upd j 8 x) b w v) MZ r) Q) : px_W G D C S M pc ls (.int x :: .ref (tc_p s) :: st) (HT (ks K s j b w v) MZ r) Q := wp_putf d gf (ts_0 hs) (by show _ < 15; decide) rfl rfl (ts_s0 (j' := upd j 8 x) (v' := v) hs) k
theorem gS_9 (hs : s < 4) (gf : px_GR M.1.cls idx 1 9) (d : decode M.2.1 pc = .ok (.getfield idx, 3)) (k : px_W G D C S M (pc + 3) ls (.int (j 9) :: st) (HT (ks K s j b w v) MZ r) Q) : px_W G D C S M pc ls (.ref (tc_p s) :: st) (HT (ks K s j b w v) MZ r) Q := wp_getf d gf (ts_0 hs) rfl k
theorem pS_9 {x : Int32} (hs : s < 4) (gf : px_GF M.1.cls idx 1 9 .int false) (d : decode M.2.1 pc = .ok (.putfield idx, 3)) (k : px_W G D C S M (pc + 3) ls st (HT (ks K s (upd j 9 x) b w v) MZ r) Q) : px_W G D C S M pc ls (.int x :: .ref (tc_p s) :: st) (HT (ks K s j b w v) MZ r) Q := wp_putf d gf (ts_0 hs) (by show _ < 15; decide) rfl rfl (ts_s0 (j' := upd j 9 x) (v' := v) hs) k
theorem gS_10 (hs : s < 4) (gf : px_GR M.1.cls idx 1 10) (d : decode M.2.1 pc = .ok (.getfield idx, 3)) (k : px_W G D C S M (pc + 3) ls (.int (j 10) :: st) (HT (ks K s j b w v) MZ r) Q) : px_W G D C S M pc ls (.ref (tc_p s) :: st) (HT (ks K s j b w v) MZ r) Q := wp_getf d gf (ts_0 hs) rfl k
theorem pS_10 {x : Int32} (hs : s < 4) (gf : px_GF M.1.cls idx 1 10 .int false) (d : decode M.2.1 pc = .ok (.putfield idx, 3)) (k : px_W G D C S M (pc + 3) ls st (HT (ks K s (upd j 10 x) b w v) MZ r) Q) : px_W G D C S M pc ls (.int x :: .ref (tc_p s) :: st) (HT (ks K s j b w v) MZ r) Q := wp_putf d gf (ts_0 hs) (by show _ < 15; decide) rfl rfl (ts_s0 (j' := upd j 10 x) (v' := v) hs) k
theorem gS_11 (hs : s < 4) (gf : px_GR M.1.cls idx 1 11) (d : decode M.2.1 pc = .ok (.getfield idx, 3)) (k : px_W G D C S M (pc + 3) ls (.int (j 11) :: st) (HT (ks K s j b w v) MZ r) Q) : px_W G D C S M pc ls (.ref (tc_p s) :: st) (HT (ks K s j b w v) MZ r) Q := wp_getf d gf (ts_0 hs) rfl k
theorem pS_11 {x : Int32} (hs : s < 4) (gf : px_GF M.1.cls idx 1 11 .int false) (d : decode M.2.1 pc = .ok (.putfield idx, 3)) (k : px_W G D C S M (pc + 3) ls st (HT (ks K s (upd j 11 x) b w v) MZ r) Q) : px_W G D C S M pc ls (.int x :: .ref (tc_p s) :: st) (HT (ks K s j b w v) MZ r) Q := wp_putf d gf (ts_0 hs) (by show _ < 15; decide) rfl rfl (ts_s0 (j' := upd j 11 x) (v' := v) hs) k
theorem gS_12 (hs : s < 4) (gf : px_GR M.1.cls idx 1 12) (d : decode M.2.1 pc = .ok (.getfield idx, 3)) (k : px_W G D C S M (pc + 3) ls (.int (j 12) :: st) (HT (ks K s j b w v) MZ r) Q) : px_W G D C S M pc ls (.ref (tc_p s) :: st) (HT (ks K s j b w v) MZ r) Q := wp_getf d gf (ts_0 hs) rfl k
theorem pS_12 {x : Int32} (hs : s < 4) (gf : px_GF M.1.cls idx 1 12 .int false) (d : decode M.2.1 pc = .ok (.putfield idx, 3)) (k : px_W G D C S M (pc + 3) ls st (HT (ks K s (upd j 12 x) b w v) MZ r) Q) : px_W G D C S M pc ls (.int x :: .ref (tc_p s) :: st) (HT (ks K s j b w v) MZ r) Q := wp_putf d gf (ts_0 hs) (by show _ < 15; decide) rfl rfl (ts_s0 (j' := upd j 12 x) (v' := v) hs) k
theorem gS_13 (hs : s < 4) (gf : px_GR M.1.cls idx 1 13) (d : decode M.2.1 pc = .ok (.getfield idx, 3)) (k : px_W G D C S M (pc + 3) ls (.int (j 13) :: st) (HT (ks K s j b w v) MZ r) Q) : px_W G D C S M pc ls (.ref (tc_p s) :: st) (HT (ks K s j b w v) MZ r) Q := wp_getf d gf (ts_0 hs) rfl k
theorem pS_13 {x : Int32} (hs : s < 4) (gf : px_GF M.1.cls idx 1 13 .int false) (d : decode M.2.1 pc = .ok (.putfield idx, 3)) (k : px_W G D C S M (pc + 3) ls st (HT (ks K s (upd j 13 x) b w v) MZ r) Q) : px_W G D C S M pc ls (.int x :: .ref (tc_p s) :: st) (HT (ks K s j b w v) MZ r) Q := wp_putf d gf (ts_0 hs) (by show _ < 15; decide) rfl rfl (ts_s0 (j' := upd j 13 x) (v' := v) hs) k
theorem gS_14 (hs : s < 4) (gf : px_GR M.1.cls idx 1 14) (d : decode M.2.1 pc = .ok (.getfield idx, 3)) (k : px_W G D C S M (pc + 3) ls (.ref v :: st) (HT (ks K s j b w v) MZ r) Q) : px_W G D C S M pc ls (.ref (tc_p s) :: st) (HT (ks K s j b w v) MZ r) Q := wp_getf d gf (ts_0 hs) rfl k
theorem pS_14 {x : Nat} (hs : s < 4) (gf : px_GF M.1.cls idx 1 14 (.object "TubeChain$Scaffold") false) (d : decode M.2.1 pc = .ok (.putfield idx, 3)) (k : px_W G D C S M (pc + 3) ls st (HT (ks K s j b w x) MZ r) Q) : px_W G D C S M pc ls (.ref x :: .ref (tc_p s) :: st) (HT (ks K s j b w v) MZ r) Q := wp_putf d gf (ts_0 hs) (by show _ < 15; decide) rfl rfl (ts_s0 (j' := j) (v' := x) hs) k
theorem lS_0 {i : Int32} (hs : s < 4) (d : decode M.2.1 pc = .ok (.aaload, 1)) (hi : vp_in i 6) (k : px_W G D C S M (pc + 1) ls (va_rf (w i.toNatClampNeg) :: st) (HT (ks K s j b w v) MZ r) Q) : px_W G D C S M pc ls (.int i :: .ref (tc_p s + 1) :: st) (HT (ks K s j b w v) MZ r) Q := wp_aald (t0 := 4) d (fun _ => rfl) (ts_a0 hs) hi k
theorem sS_0 {i : Int32} {y ci : Nat} {fs : List Value} (hs : s < 4) (d : decode M.2.1 pc = .ok (.aastore, 1)) (hi : vp_in i 6) (hy : (HT (ks K s j b w v) MZ r)[y]? = some (.inr (ci, fs))) (hu : px_sub ci "TubeChain$Man") (k : px_W G D C S M (pc + 1) ls st (HT (ks K s j b (va_up w i.toNatClampNeg (some y)) v) MZ r) Q) : px_W G D C S M pc ls (.ref y :: .int i :: .ref (tc_p s + 1) :: st) (HT (ks K s j b w v) MZ r) Q := wp_aast (t0 := 4) d (fun _ => rfl) (ts_a0 hs) hy hu hi (ts_sa0 hs) k
theorem lS_1 {i : Int32} (hs : s < 4) (d : decode M.2.1 pc = .ok (.iaload, 1)) (hi : vp_in i 6) (k : px_W G D C S M (pc + 1) ls (.int (b 1 i.toNatClampNeg) :: st) (HT (ks K s j b w v) MZ r) Q) : px_W G D C S M pc ls (.int i :: .ref (tc_p s + 2) :: st) (HT (ks K s j b w v) MZ r) Q := wp_iald d (ts_a1 hs) hi k
theorem sS_1 {i x : Int32} (hs : s < 4) (d : decode M.2.1 pc = .ok (.iastore, 1)) (hi : vp_in i 6) (k : px_W G D C S M (pc + 1) ls st (HT (ks K s j (va_up b 1 (upd (b 1) i.toNatClampNeg x)) w v) MZ r) Q) : px_W G D C S M pc ls (.int x :: .int i :: .ref (tc_p s + 2) :: st) (HT (ks K s j b w v) MZ r) Q := wp_iast d (ts_a1 hs) hi (ts_sa1 hs) k
theorem lS_2 {i : Int32} (hs : s < 4) (d : decode M.2.1 pc = .ok (.iaload, 1)) (hi : vp_in i 6) (k : px_W G D C S M (pc + 1) ls (.int (b 2 i.toNatClampNeg) :: st) (HT (ks K s j b w v) MZ r) Q) : px_W G D C S M pc ls (.int i :: .ref (tc_p s + 3) :: st) (HT (ks K s j b w v) MZ r) Q := wp_iald d (ts_a2 hs) hi k
theorem sS_2 {i x : Int32} (hs : s < 4) (d : decode M.2.1 pc = .ok (.iastore, 1)) (hi : vp_in i 6) (k : px_W G D C S M (pc + 1) ls st (HT (ks K s j (va_up b 2 (upd (b 2) i.toNatClampNeg x)) w v) MZ r) Q) : px_W G D C S M pc ls (.int x :: .int i :: .ref (tc_p s + 3) :: st) (HT (ks K s j b w v) MZ r) Q := wp_iast d (ts_a2 hs) hi (ts_sa2 hs) k
theorem lS_3 {i : Int32} (hs : s < 4) (d : decode M.2.1 pc = .ok (.iaload, 1)) (hi : vp_in i 24) (k : px_W G D C S M (pc + 1) ls (.int (b 3 i.toNatClampNeg) :: st) (HT (ks K s j b w v) MZ r) Q) : px_W G D C S M pc ls (.int i :: .ref (tc_p s + 4) :: st) (HT (ks K s j b w v) MZ r) Q := wp_iald d (ts_a3 hs) hi k
theorem sS_3 {i x : Int32} (hs : s < 4) (d : decode M.2.1 pc = .ok (.iastore, 1)) (hi : vp_in i 24) (k : px_W G D C S M (pc + 1) ls st (HT (ks K s j (va_up b 3 (upd (b 3) i.toNatClampNeg x)) w v) MZ r) Q) : px_W G D C S M pc ls (.int x :: .int i :: .ref (tc_p s + 4) :: st) (HT (ks K s j b w v) MZ r) Q := wp_iast d (ts_a3 hs) hi (ts_sa3 hs) k
theorem lS_4 {i : Int32} (hs : s < 4) (d : decode M.2.1 pc = .ok (.iaload, 1)) (hi : vp_in i 6) (k : px_W G D C S M (pc + 1) ls (.int (b 4 i.toNatClampNeg) :: st) (HT (ks K s j b w v) MZ r) Q) : px_W G D C S M pc ls (.int i :: .ref (tc_p s + 5) :: st) (HT (ks K s j b w v) MZ r) Q := wp_iald d (ts_a4 hs) hi k
theorem sS_4 {i x : Int32} (hs : s < 4) (d : decode M.2.1 pc = .ok (.iastore, 1)) (hi : vp_in i 6) (k : px_W G D C S M (pc + 1) ls st (HT (ks K s j (va_up b 4 (upd (b 4) i.toNatClampNeg x)) w v) MZ r) Q) : px_W G D C S M pc ls (.int x :: .int i :: .ref (tc_p s + 5) :: st) (HT (ks K s j b w v) MZ r) Q := wp_iast d (ts_a4 hs) hi (ts_sa4 hs) k
theorem lS_5 {i : Int32} (hs : s < 4) (d : decode M.2.1 pc = .ok (.iaload, 1)) (hi : vp_in i 6) (k : px_W G D C S M (pc + 1) ls (.int (b 5 i.toNatClampNeg) :: st) (HT (ks K s j b w v) MZ r) Q) : px_W G D C S M pc ls (.int i :: .ref (tc_p s + 6) :: st) (HT (ks K s j b w v) MZ r) Q := wp_iald d (ts_a5 hs) hi k
theorem sS_5 {i x : Int32} (hs : s < 4) (d : decode M.2.1 pc = .ok (.iastore, 1)) (hi : vp_in i 6) (k : px_W G D C S M (pc + 1) ls st (HT (ks K s j (va_up b 5 (upd (b 5) i.toNatClampNeg x)) w v) MZ r) Q) : px_W G D C S M pc ls (.int x :: .int i :: .ref (tc_p s + 6) :: st) (HT (ks K s j b w v) MZ r) Q := wp_iast d (ts_a5 hs) hi (ts_sa5 hs) k
theorem lS_6 {i : Int32} (hs : s < 4) (d : decode M.2.1 pc = .ok (.iaload, 1)) (hi : vp_in i 8) (k : px_W G D C S M (pc + 1) ls (.int (b 6 i.toNatClampNeg) :: st) (HT (ks K s j b w v) MZ r) Q) : px_W G D C S M pc ls (.int i :: .ref (tc_p s + 7) :: st) (HT (ks K s j b w v) MZ r) Q := wp_iald d (ts_a6 hs) hi k
theorem sS_6 {i x : Int32} (hs : s < 4) (d : decode M.2.1 pc = .ok (.iastore, 1)) (hi : vp_in i 8) (k : px_W G D C S M (pc + 1) ls st (HT (ks K s j (va_up b 6 (upd (b 6) i.toNatClampNeg x)) w v) MZ r) Q) : px_W G D C S M pc ls (.int x :: .int i :: .ref (tc_p s + 7) :: st) (HT (ks K s j b w v) MZ r) Q := wp_iast d (ts_a6 hs) hi (ts_sa6 hs) k
theorem gC_0 (gf : px_GR M.1.cls idx 0 0) (d : decode M.2.1 pc = .ok (.getfield idx, 3)) (k : px_W G D C S M (pc + 3) ls (.ref (tc_p 0) :: st) (HT K MZ r) Q) : px_W G D C S M pc ls (.ref 0 :: st) (HT K MZ r) Q := wp_getf (p0 := 0) (fs := TF (K.1 5)) d gf (ht_lo rfl) rfl k
theorem gC_1 (gf : px_GR M.1.cls idx 0 1) (d : decode M.2.1 pc = .ok (.getfield idx, 3)) (k : px_W G D C S M (pc + 3) ls (.ref (tc_p 1) :: st) (HT K MZ r) Q) : px_W G D C S M pc ls (.ref 0 :: st) (HT K MZ r) Q := wp_getf (p0 := 0) (fs := TF (K.1 5)) d gf (ht_lo rfl) rfl k
theorem gC_2 (gf : px_GR M.1.cls idx 0 2) (d : decode M.2.1 pc = .ok (.getfield idx, 3)) (k : px_W G D C S M (pc + 3) ls (.ref 23 :: st) (HT K MZ r) Q) : px_W G D C S M pc ls (.ref 0 :: st) (HT K MZ r) Q := wp_getf (p0 := 0) (fs := TF (K.1 5)) d gf (ht_lo rfl) rfl k
theorem gC_3 (gf : px_GR M.1.cls idx 0 3) (d : decode M.2.1 pc = .ok (.getfield idx, 3)) (k : px_W G D C S M (pc + 3) ls (.ref 41 :: st) (HT K MZ r) Q) : px_W G D C S M pc ls (.ref 0 :: st) (HT K MZ r) Q := wp_getf (p0 := 0) (fs := TF (K.1 5)) d gf (ht_lo rfl) rfl k
theorem gC_4 (gf : px_GR M.1.cls idx 0 4) (d : decode M.2.1 pc = .ok (.getfield idx, 3)) (k : px_W G D C S M (pc + 3) ls (.ref 42 :: st) (HT K MZ r) Q) : px_W G D C S M pc ls (.ref 0 :: st) (HT K MZ r) Q := wp_getf (p0 := 0) (fs := TF (K.1 5)) d gf (ht_lo rfl) rfl k
theorem gC_5 (gf : px_GR M.1.cls idx 0 5) (d : decode M.2.1 pc = .ok (.getfield idx, 3)) (k : px_W G D C S M (pc + 3) ls (.ref 43 :: st) (HT K MZ r) Q) : px_W G D C S M pc ls (.ref 0 :: st) (HT K MZ r) Q := wp_getf (p0 := 0) (fs := TF (K.1 5)) d gf (ht_lo rfl) rfl k
theorem gC_6 (gf : px_GR M.1.cls idx 0 6) (d : decode M.2.1 pc = .ok (.getfield idx, 3)) (k : px_W G D C S M (pc + 3) ls (.ref 56 :: st) (HT K MZ r) Q) : px_W G D C S M pc ls (.ref 0 :: st) (HT K MZ r) Q := wp_getf (p0 := 0) (fs := TF (K.1 5)) d gf (ht_lo rfl) rfl k
theorem gC_7 (gf : px_GR M.1.cls idx 0 7) (d : decode M.2.1 pc = .ok (.getfield idx, 3)) (k : px_W G D C S M (pc + 3) ls (.ref 57 :: st) (HT K MZ r) Q) : px_W G D C S M pc ls (.ref 0 :: st) (HT K MZ r) Q := wp_getf (p0 := 0) (fs := TF (K.1 5)) d gf (ht_lo rfl) rfl k
theorem gC_8 (gf : px_GR M.1.cls idx 0 8) (d : decode M.2.1 pc = .ok (.getfield idx, 3)) (k : px_W G D C S M (pc + 3) ls (.int (K.1 5 8) :: st) (HT K MZ r) Q) : px_W G D C S M pc ls (.ref 0 :: st) (HT K MZ r) Q := wp_getf (p0 := 0) (fs := TF (K.1 5)) d gf (ht_lo rfl) rfl k
theorem pC_8 {x : Int32} (gf : px_GF M.1.cls idx 0 8 .int false) (d : decode M.2.1 pc = .ok (.putfield idx, 3)) (k : px_W G D C S M (pc + 3) ls st (HT (kJ K 5 (upd (K.1 5) 8 x)) MZ r) Q) : px_W G D C S M pc ls (.int x :: .ref 0 :: st) (HT K MZ r) Q := wp_putf (p0 := 0) (fs := TF (K.1 5)) d gf (ht_lo rfl) (by show _ < 11; decide) rfl rfl (ht_st (K' := kJ K 5 (upd (K.1 5) 8 x)) (pv' := r.1) (by decide) rfl) k
theorem gC_9 (gf : px_GR M.1.cls idx 0 9) (d : decode M.2.1 pc = .ok (.getfield idx, 3)) (k : px_W G D C S M (pc + 3) ls (.int (K.1 5 9) :: st) (HT K MZ r) Q) : px_W G D C S M pc ls (.ref 0 :: st) (HT K MZ r) Q := wp_getf (p0 := 0) (fs := TF (K.1 5)) d gf (ht_lo rfl) rfl k
theorem pC_9 {x : Int32} (gf : px_GF M.1.cls idx 0 9 .int false) (d : decode M.2.1 pc = .ok (.putfield idx, 3)) (k : px_W G D C S M (pc + 3) ls st (HT (kJ K 5 (upd (K.1 5) 9 x)) MZ r) Q) : px_W G D C S M pc ls (.int x :: .ref 0 :: st) (HT K MZ r) Q := wp_putf (p0 := 0) (fs := TF (K.1 5)) d gf (ht_lo rfl) (by show _ < 11; decide) rfl rfl (ht_st (K' := kJ K 5 (upd (K.1 5) 9 x)) (pv' := r.1) (by decide) rfl) k
theorem gC_10 (gf : px_GR M.1.cls idx 0 10) (d : decode M.2.1 pc = .ok (.getfield idx, 3)) (k : px_W G D C S M (pc + 3) ls (.int (K.1 5 10) :: st) (HT K MZ r) Q) : px_W G D C S M pc ls (.ref 0 :: st) (HT K MZ r) Q := wp_getf (p0 := 0) (fs := TF (K.1 5)) d gf (ht_lo rfl) rfl k
theorem pC_10 {x : Int32} (hx : narrow .boolean (.int x) = .int x) (hf : fits .boolean (.int x) = true) (gf : px_GF M.1.cls idx 0 10 .boolean false) (d : decode M.2.1 pc = .ok (.putfield idx, 3)) (k : px_W G D C S M (pc + 3) ls st (HT (kJ K 5 (upd (K.1 5) 10 x)) MZ r) Q) : px_W G D C S M pc ls (.int x :: .ref 0 :: st) (HT K MZ r) Q := wp_putf (p0 := 0) (fs := TF (K.1 5)) d gf (ht_lo rfl) (by show _ < 11; decide) hx hf (ht_st (K' := kJ K 5 (upd (K.1 5) 10 x)) (pv' := r.1) (by decide) rfl) k
theorem gR_0 (gf : px_GR M.1.cls idx 2 0) (d : decode M.2.1 pc = .ok (.getfield idx, 3)) (k : px_W G D C S M (pc + 3) ls (.ref (tc_p 2) :: st) (HT K MZ r) Q) : px_W G D C S M pc ls (.ref 23 :: st) (HT K MZ r) Q := wp_getf (p0 := 23) (fs := RF (K.1 4)) d gf (ht_lo rfl) rfl k
theorem gR_1 (gf : px_GR M.1.cls idx 2 1) (d : decode M.2.1 pc = .ok (.getfield idx, 3)) (k : px_W G D C S M (pc + 3) ls (.ref (tc_p 3) :: st) (HT K MZ r) Q) : px_W G D C S M pc ls (.ref 23 :: st) (HT K MZ r) Q := wp_getf (p0 := 23) (fs := RF (K.1 4)) d gf (ht_lo rfl) rfl k
theorem gR_2 (gf : px_GR M.1.cls idx 2 2) (d : decode M.2.1 pc = .ok (.getfield idx, 3)) (k : px_W G D C S M (pc + 3) ls (.ref 40 :: st) (HT K MZ r) Q) : px_W G D C S M pc ls (.ref 23 :: st) (HT K MZ r) Q := wp_getf (p0 := 23) (fs := RF (K.1 4)) d gf (ht_lo rfl) rfl k
theorem gR_3 (gf : px_GR M.1.cls idx 2 3) (d : decode M.2.1 pc = .ok (.getfield idx, 3)) (k : px_W G D C S M (pc + 3) ls (.int (K.1 4 3) :: st) (HT K MZ r) Q) : px_W G D C S M pc ls (.ref 23 :: st) (HT K MZ r) Q := wp_getf (p0 := 23) (fs := RF (K.1 4)) d gf (ht_lo rfl) rfl k
theorem pR_3 {x : Int32} (gf : px_GF M.1.cls idx 2 3 .int false) (d : decode M.2.1 pc = .ok (.putfield idx, 3)) (k : px_W G D C S M (pc + 3) ls st (HT (kJ K 4 (upd (K.1 4) 3 x)) MZ r) Q) : px_W G D C S M pc ls (.int x :: .ref 23 :: st) (HT K MZ r) Q := wp_putf (p0 := 23) (fs := RF (K.1 4)) d gf (ht_lo rfl) (by show _ < 6; decide) rfl rfl (ht_st (K' := kJ K 4 (upd (K.1 4) 3 x)) (pv' := r.1) (by decide) rfl) k
theorem gR_4 (gf : px_GR M.1.cls idx 2 4) (d : decode M.2.1 pc = .ok (.getfield idx, 3)) (k : px_W G D C S M (pc + 3) ls (.int (K.1 4 4) :: st) (HT K MZ r) Q) : px_W G D C S M pc ls (.ref 23 :: st) (HT K MZ r) Q := wp_getf (p0 := 23) (fs := RF (K.1 4)) d gf (ht_lo rfl) rfl k
theorem pR_4 {x : Int32} (gf : px_GF M.1.cls idx 2 4 .int false) (d : decode M.2.1 pc = .ok (.putfield idx, 3)) (k : px_W G D C S M (pc + 3) ls st (HT (kJ K 4 (upd (K.1 4) 4 x)) MZ r) Q) : px_W G D C S M pc ls (.int x :: .ref 23 :: st) (HT K MZ r) Q := wp_putf (p0 := 23) (fs := RF (K.1 4)) d gf (ht_lo rfl) (by show _ < 6; decide) rfl rfl (ht_st (K' := kJ K 4 (upd (K.1 4) 4 x)) (pv' := r.1) (by decide) rfl) k
theorem gR_5 (gf : px_GR M.1.cls idx 2 5) (d : decode M.2.1 pc = .ok (.getfield idx, 3)) (k : px_W G D C S M (pc + 3) ls (.int (K.1 4 5) :: st) (HT K MZ r) Q) : px_W G D C S M pc ls (.ref 23 :: st) (HT K MZ r) Q := wp_getf (p0 := 23) (fs := RF (K.1 4)) d gf (ht_lo rfl) rfl k
theorem pR_5 {x : Int32} (gf : px_GF M.1.cls idx 2 5 .int false) (d : decode M.2.1 pc = .ok (.putfield idx, 3)) (k : px_W G D C S M (pc + 3) ls st (HT (kJ K 4 (upd (K.1 4) 5 x)) MZ r) Q) : px_W G D C S M pc ls (.int x :: .ref 23 :: st) (HT K MZ r) Q := wp_putf (p0 := 23) (fs := RF (K.1 4)) d gf (ht_lo rfl) (by show _ < 6; decide) rfl rfl (ht_st (K' := kJ K 4 (upd (K.1 4) 5 x)) (pv' := r.1) (by decide) rfl) k
theorem ta_40 : (HT K MZ r)[40]? = some (iA 6 (K.2.1 4 2)) := ht_lo rfl
theorem ts_40 {f : Nat → Int32} : (HT K MZ r).set 40 (iA 6 f) = HT (kB K 4 (va_up (K.2.1 4) 2 f)) MZ r := ht_st (K' := kB K 4 (va_up (K.2.1 4) 2 f)) (pv' := r.1) (by decide) rfl
theorem lA_40 {i : Int32} (d : decode M.2.1 pc = .ok (.iaload, 1)) (hi : vp_in i 6) (k : px_W G D C S M (pc + 1) ls (.int (K.2.1 4 2 i.toNatClampNeg) :: st) (HT K MZ r) Q) : px_W G D C S M pc ls (.int i :: .ref 40 :: st) (HT K MZ r) Q := wp_iald d ta_40 hi k
theorem sA_40 {i x : Int32} (d : decode M.2.1 pc = .ok (.iastore, 1)) (hi : vp_in i 6) (k : px_W G D C S M (pc + 1) ls st (HT (kB K 4 (va_up (K.2.1 4) 2 (upd (K.2.1 4 2) i.toNatClampNeg x))) MZ r) Q) : px_W G D C S M pc ls (.int x :: .int i :: .ref 40 :: st) (HT K MZ r) Q := wp_iast d ta_40 hi ts_40 k
theorem ta_57 : (HT K MZ r)[57]? = some (iA 6 (K.2.1 4 3)) := ht_lo rfl
theorem ts_57 {f : Nat → Int32} : (HT K MZ r).set 57 (iA 6 f) = HT (kB K 4 (va_up (K.2.1 4) 3 f)) MZ r := ht_st (K' := kB K 4 (va_up (K.2.1 4) 3 f)) (pv' := r.1) (by decide) rfl
theorem lA_57 {i : Int32} (d : decode M.2.1 pc = .ok (.iaload, 1)) (hi : vp_in i 6) (k : px_W G D C S M (pc + 1) ls (.int (K.2.1 4 3 i.toNatClampNeg) :: st) (HT K MZ r) Q) : px_W G D C S M pc ls (.int i :: .ref 57 :: st) (HT K MZ r) Q := wp_iald d ta_57 hi k
theorem sA_57 {i x : Int32} (d : decode M.2.1 pc = .ok (.iastore, 1)) (hi : vp_in i 6) (k : px_W G D C S M (pc + 1) ls st (HT (kB K 4 (va_up (K.2.1 4) 3 (upd (K.2.1 4 3) i.toNatClampNeg x))) MZ r) Q) : px_W G D C S M pc ls (.int x :: .int i :: .ref 57 :: st) (HT K MZ r) Q := wp_iast d ta_57 hi ts_57 k
theorem ta_56 : (HT K MZ r)[56]? = some (iA 21 (K.2.1 5 6)) := ht_lo rfl
theorem ts_56 {f : Nat → Int32} : (HT K MZ r).set 56 (iA 21 f) = HT (kB K 5 (va_up (K.2.1 5) 6 f)) MZ r := ht_st (K' := kB K 5 (va_up (K.2.1 5) 6 f)) (pv' := r.1) (by decide) rfl
theorem lA_56 {i : Int32} (d : decode M.2.1 pc = .ok (.iaload, 1)) (hi : vp_in i 21) (k : px_W G D C S M (pc + 1) ls (.int (K.2.1 5 6 i.toNatClampNeg) :: st) (HT K MZ r) Q) : px_W G D C S M pc ls (.int i :: .ref 56 :: st) (HT K MZ r) Q := wp_iald d ta_56 hi k
theorem sA_56 {i x : Int32} (d : decode M.2.1 pc = .ok (.iastore, 1)) (hi : vp_in i 21) (k : px_W G D C S M (pc + 1) ls st (HT (kB K 5 (va_up (K.2.1 5) 6 (upd (K.2.1 5 6) i.toNatClampNeg x))) MZ r) Q) : px_W G D C S M pc ls (.int x :: .int i :: .ref 56 :: st) (HT K MZ r) Q := wp_iast d ta_56 hi ts_56 k
theorem ta_42 : (HT K MZ r)[42]? = some (.inl (.char, 100, .inl (K.2.1 5 4))) := ht_lo rfl
theorem sA_42 {i x : Int32} (d : decode M.2.1 pc = .ok (.castore, 1)) (hi : vp_in i 100) (k : px_W G D C S M (pc + 1) ls st (HT (kB K 5 (va_up (K.2.1 5) 4 (upd (K.2.1 5 4) i.toNatClampNeg (vp_nar .char x)))) MZ r) Q) : px_W G D C S M pc ls (.int x :: .int i :: .ref 42 :: st) (HT K MZ r) Q := wp_cast d ta_42 hi (ht_st (K' := kB K 5 (va_up (K.2.1 5) 4 (upd (K.2.1 5 4) i.toNatClampNeg (vp_nar .char x)))) (pv' := r.1) (by decide) rfl) k
theorem ta_41 : (HT K MZ r)[41]? = some (rA "TubeChain$Scaffold" 6 (K.2.2.1 4)) := ht_lo rfl
theorem lA_41 {i : Int32} (d : decode M.2.1 pc = .ok (.aaload, 1)) (hi : vp_in i 6) (k : px_W G D C S M (pc + 1) ls (va_rf (K.2.2.1 4 i.toNatClampNeg) :: st) (HT K MZ r) Q) : px_W G D C S M pc ls (.int i :: .ref 41 :: st) (HT K MZ r) Q := wp_aald (t0 := 5) d (fun _ => rfl) ta_41 hi k
theorem sA_41 {i : Int32} {y ci : Nat} {fs : List Value} (d : decode M.2.1 pc = .ok (.aastore, 1)) (hi : vp_in i 6) (hy : (HT K MZ r)[y]? = some (.inr (ci, fs))) (hu : px_sub ci "TubeChain$Scaffold") (k : px_W G D C S M (pc + 1) ls st (HT (kW K 4 (va_up (K.2.2.1 4) i.toNatClampNeg (some y))) MZ r) Q) : px_W G D C S M pc ls (.ref y :: .int i :: .ref 41 :: st) (HT K MZ r) Q := wp_aast (t0 := 5) d (fun _ => rfl) ta_41 hy hu hi (ht_st (K' := kW K 4 (va_up (K.2.2.1 4) i.toNatClampNeg (some y))) (pv' := r.1) (by decide) rfl) k
theorem lA_43 {i : Nat} (h6 : i < 6) (d : decode M.2.1 pc = .ok (.aaload, 1)) (k : px_W G D C S M (pc + 1) ls (.ref (44 + 2 * i) :: st) (HT K MZ r) Q) : px_W G D C S M pc ls (.int (nI i) :: .ref 43 :: st) (HT K MZ r) Q := by
  refine wp_aald (t0 := 6) d (fun _ => rfl) (show (HT K MZ r)[43]? = some (rA "TubeChain$Tape" 6 tc_tp) from ht_lo rfl) (vp_in_nI h6 (by decide)) ?_
  rw [nI_clamp (by omega)]
  have e : va_rf (tc_tp i) = .ref (44 + 2 * i) := by
    revert i
    intro i h6 _
    exact s6 (P := fun i => va_rf (tc_tp i) = .ref (44 + 2 * i)) rfl rfl rfl rfl rfl rfl i h6
  rw [e]
  exact k
theorem hc_t (K : tc_K) (pv : Nat → Int32) : ∀ i, i < 6 → (HC K pv)[44 + 2 * i]? = some (.inr (4, TP i (K.1 (6 + i)))) := s6 rfl rfl rfl rfl rfl rfl
theorem hc_st (K : tc_K) (pv : Nat → Int32) (j : Nat → Int32) : ∀ i, i < 6 → (HC K pv).set (44 + 2 * i) (.inr (4, TP i j)) = HC (kJ K (6 + i) j) pv := s6 rfl rfl rfl rfl rfl rfl
theorem hc_y (K : tc_K) (pv : Nat → Int32) : ∀ i, i < 6 → (HC K pv)[45 + 2 * i]? = some (.inl (.long, 60, .inr (.inl (K.2.2.2.2 i)))) := s6 rfl rfl rfl rfl rfl rfl
theorem hc_sy (K : tc_K) (pv : Nat → Int32) (y : Nat → Int64) : ∀ i, i < 6 → (HC K pv).set (45 + 2 * i) (.inl (.long, 60, .inr (.inl y))) = HC (kY K i y) pv := s6 rfl rfl rfl rfl rfl rfl
theorem gT_0 {i : Nat} (hi : i < 6) (gf : px_GR M.1.cls idx 4 0) (d : decode M.2.1 pc = .ok (.getfield idx, 3)) (k : px_W G D C S M (pc + 3) ls (.ref (45 + 2 * i) :: st) (HT K MZ r) Q) : px_W G D C S M pc ls (.ref (44 + 2 * i) :: st) (HT K MZ r) Q := wp_getf d gf (ht_lo (hc_t K r.1 i hi)) rfl k
theorem gT_1 {i : Nat} (hi : i < 6) (gf : px_GR M.1.cls idx 4 1) (d : decode M.2.1 pc = .ok (.getfield idx, 3)) (k : px_W G D C S M (pc + 3) ls (.int (K.1 (6 + i) 1) :: st) (HT K MZ r) Q) : px_W G D C S M pc ls (.ref (44 + 2 * i) :: st) (HT K MZ r) Q := wp_getf d gf (ht_lo (hc_t K r.1 i hi)) rfl k
theorem gT_2 {i : Nat} (hi : i < 6) (gf : px_GR M.1.cls idx 4 2) (d : decode M.2.1 pc = .ok (.getfield idx, 3)) (k : px_W G D C S M (pc + 3) ls (.int (K.1 (6 + i) 2) :: st) (HT K MZ r) Q) : px_W G D C S M pc ls (.ref (44 + 2 * i) :: st) (HT K MZ r) Q := wp_getf d gf (ht_lo (hc_t K r.1 i hi)) rfl k
theorem pT_1 {i : Nat} {x : Int32} (hi : i < 6) (gf : px_GF M.1.cls idx 4 1 .int false) (d : decode M.2.1 pc = .ok (.putfield idx, 3)) (k : px_W G D C S M (pc + 3) ls st (HT (kJ K (6 + i) (upd (K.1 (6 + i)) 1 x)) MZ r) Q) : px_W G D C S M pc ls (.int x :: .ref (44 + 2 * i) :: st) (HT K MZ r) Q := wp_putf d gf (ht_lo (hc_t K r.1 i hi)) (by show _ < 3; decide) rfl rfl (ht_st (pv' := r.1) (by omega) (hc_st K r.1 (upd (K.1 (6 + i)) 1 x) i hi)) k
theorem pT_2 {i : Nat} {x : Int32} (hi : i < 6) (gf : px_GF M.1.cls idx 4 2 .int false) (d : decode M.2.1 pc = .ok (.putfield idx, 3)) (k : px_W G D C S M (pc + 3) ls st (HT (kJ K (6 + i) (upd (K.1 (6 + i)) 2 x)) MZ r) Q) : px_W G D C S M pc ls (.int x :: .ref (44 + 2 * i) :: st) (HT K MZ r) Q := wp_putf d gf (ht_lo (hc_t K r.1 i hi)) (by show _ < 3; decide) rfl rfl (ht_st (pv' := r.1) (by omega) (hc_st K r.1 (upd (K.1 (6 + i)) 2 x) i hi)) k
theorem ty_at {i : Nat} (hi : i < 6) : (HT K MZ r)[45 + 2 * i]? = some (.inl (.long, 60, .inr (.inl (K.2.2.2.2 i)))) := ht_lo (hc_y K r.1 i hi)
theorem ty_st {i : Nat} {y : Nat → Int64} (hi : i < 6) : (HT K MZ r).set (45 + 2 * i) (.inl (.long, 60, .inr (.inl y))) = HT (kY K i y) MZ r := ht_st (pv' := r.1) (by omega) (hc_sy K r.1 y i hi)
theorem toS (s : Nat) (k : px_W G D C S M pc ls st (HT (ks K s (K.1 s) (K.2.1 s) (K.2.2.1 s) (K.2.2.2.1 s)) MZ r) Q) : px_W G D C S M pc ls st (HT K MZ r) Q := by
  rw [ks_id] at k
  exact k
end TCRULES
