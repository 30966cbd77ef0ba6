/-! the model's tape: its bytes are the class's, from 0 to 255 -/
def ubT (byt : Nat → Int32) : Nat → Int32 := fun j => byt j &&& 255
def isB (b : Int32) : Prop := ∃ n, n < 256 ∧ b = (nI n).toInt8.toInt32
def baF (byt : Nat → Int32) (tsz k : Nat) : Int32 := if nI tsz ≤ nI k then -1 else byt k &&& 255
theorem by_all : ∀ n, n < 256 → (((nI n).toInt8.toInt32 &&& 255 = 32 ↔ (nI n).toInt8.toInt32 = 32) ∧ (nO ((nI n).toInt8.toInt32 &&& 255) 97 122 = 0 ↔ ¬ sortB (nI n).toInt8.toInt32 = 1) ∧ (nO ((nI n).toInt8.toInt32 &&& 255) 48 57 = 0 ↔ ¬ sortB (nI n).toInt8.toInt32 = 2) ∧ 0 ≤ ((nI n).toInt8.toInt32 &&& 255) ∧ (sortB (nI n).toInt8.toInt32 = 1 → (nI n).toInt8.toInt32 &&& 255 = (nI n).toInt8.toInt32) ∧ (sortB (nI n).toInt8.toInt32 = 2 → (nI n).toInt8.toInt32 &&& 255 = (nI n).toInt8.toInt32) ∧ ((nI n).toInt8.toInt32 &&& 255 = 59 ↔ (nI n).toInt8.toInt32 = 59) ∧ (sortB (nI n).toInt8.toInt32 = 1 → ¬ (nI n).toInt8.toInt32 = 32) ∧ (sortB (nI n).toInt8.toInt32 = 1 ∨ sortB (nI n).toInt8.toInt32 = 2 ∨ sortB (nI n).toInt8.toInt32 = 3)) := by decide +kernel
theorem isB_w {b : Int32} (h : isB b) : ((b &&& 255 = 32 ↔ b = 32) ∧ (nO (b &&& 255) 97 122 = 0 ↔ ¬ sortB b = 1) ∧ (nO (b &&& 255) 48 57 = 0 ↔ ¬ sortB b = 2) ∧ 0 ≤ (b &&& 255) ∧ (sortB b = 1 → b &&& 255 = b) ∧ (sortB b = 2 → b &&& 255 = b) ∧ (b &&& 255 = 59 ↔ b = 59) ∧ (sortB b = 1 → ¬ b = 32) ∧ (sortB b = 1 ∨ sortB b = 2 ∨ sortB b = 3)) := by obtain ⟨n, hn, rfl⟩ := h; exact by_all n hn
theorem by_u : ∀ n, n < 256 → (nI n).toInt8.toInt32 &&& 255 = nI n := sc_k8
theorem isB_u {b : Int32} (h : isB b) : ∃ n, n < 256 ∧ b &&& 255 = nI n := by obtain ⟨n, hn, rfl⟩ := h; exact ⟨n, hn, by_u n hn⟩
def mlL : List Int32 := [103, 111, 101, 114, 32, 32, 32, 32, 100, 114, 105, 118, 101, 114, 32, 32, 109, 111, 117, 114, 110, 101, 114, 32, 115, 116, 111, 107, 101, 114, 32, 32, 119, 105, 100, 111, 119, 32, 32, 32, 99, 104, 105, 108, 100, 32, 32, 32, 102, 111, 103, 32, 32, 32, 32, 32, 97, 114, 109, 115, 32, 32, 32, 32, 104, 117, 109, 32, 32, 32, 32, 32, 100, 114, 101, 97, 100, 32, 32, 32, 108, 111, 118, 101, 32, 32, 32, 32, 108, 97, 109, 112, 32, 32, 32, 32, 97, 116, 32, 32, 32, 32, 32, 32, 105, 115, 32, 32, 32, 32, 32, 32, 102, 97, 105, 116, 104, 32, 32, 32]
/-- the model's letters -/
def mlet : Nat → Int32 := fun j => mlL.getD j 0
theorem mlet_t : ∀ w, w < 15 → ∀ k, k < 8 → mlet (8 * w + k) = if k < tq_len.getD w 0 then (tq_byt.getD w []).getD k 0 else 32 := by decide +kernel
theorem tq_32 : ∀ w, w < 15 → ∀ k, k < 8 → k < tq_len.getD w 0 → ¬ (tq_byt.getD w []).getD k 0 = 32 := by decide +kernel
theorem tq_ne : ∀ w, w < 15 → ∀ v, v < 15 → w ≠ v → tq_len.getD w 0 = tq_len.getD v 0 → ∃ k, k < 8 ∧ k < tq_len.getD w 0 ∧ ¬ (tq_byt.getD w []).getD k 0 = (tq_byt.getD v []).getD k 0 := by
  have h : ∀ w, w < 15 → ∀ v, v < 15 → w ≠ v → tq_len.getD w 0 = tq_len.getD v 0 → ((List.range 8).all (fun k => !(decide (k < tq_len.getD w 0)) || decide ((tq_byt.getD w []).getD k 0 = (tq_byt.getD v []).getD k 0))) = false := by decide +kernel
  intro w hw v hv hne hl
  have h1 := h w hw v hv hne hl
  refine Classical.byContradiction (fun q => ?_)
  have h2 : ((List.range 8).all (fun k => !(decide (k < tq_len.getD w 0)) || decide ((tq_byt.getD w []).getD k 0 = (tq_byt.getD v []).getD k 0))) = true := by
    rw [List.all_eq_true]
    intro k hk
    have hk8 : k < 8 := List.mem_range.mp hk
    by_cases c : k < tq_len.getD w 0
    · have e : (tq_byt.getD w []).getD k 0 = (tq_byt.getD v []).getD k 0 := Classical.byContradiction (fun z => q ⟨k, hk8, c, z⟩)
      rw [decide_eq_true e, Bool.or_true]
    · rw [decide_eq_false c]; rfl
  rw [h1] at h2
  cases h2
/-- the model's test of a name -/
def nmB (byt : Nat → Int32) (tsz S E w : Nat) : Nat → Nat → Int32
  | 0, _ => 1
  | m + 1, k => if mlet (8 * w + k) = (if nI E ≤ nI (S + k) then 32 else baF byt tsz (S + k)) then nmB byt tsz S E w m (k + 1) else 0
def nmO (byt : Nat → Int32) (tsz S E w : Nat) : Int32 := if 8 < nI (E - S) then 0 else nmB byt tsz S E w 8 0
theorem nmB_i (byt : Nat → Int32) (tsz S E w : Nat) : ∀ m k, (nmB byt tsz S E w m k = 1 ∧ ∀ j, k ≤ j → j < k + m → mlet (8 * w + j) = (if nI E ≤ nI (S + j) then 32 else baF byt tsz (S + j))) ∨ (nmB byt tsz S E w m k = 0 ∧ ∃ j, k ≤ j ∧ j < k + m ∧ ¬ mlet (8 * w + j) = (if nI E ≤ nI (S + j) then 32 else baF byt tsz (S + j)))
  | 0, k => Or.inl ⟨rfl, fun j h1 h2 => absurd h1 (by omega)⟩
  | m + 1, k => by
    unfold nmB
    by_cases h : mlet (8 * w + k) = (if nI E ≤ nI (S + k) then 32 else baF byt tsz (S + k))
    · rw [if_pos h]
      rcases nmB_i byt tsz S E w m (k + 1) with ⟨a, b⟩ | ⟨a, j, b, c, d⟩
      · refine Or.inl ⟨a, fun j h1 h2 => ?_⟩
        by_cases e : j = k
        · rw [e]; exact h
        · exact b j (by omega) (by omega)
      · exact Or.inr ⟨a, j, by omega, by omega, d⟩
    · rw [if_neg h]
      exact Or.inr ⟨rfl, k, by omega, by omega, h⟩
theorem nmL_i (byt : Nat → Int32) (ws wi : Nat) : ∀ m k, (nmL byt ws wi m k = 1 ∧ ∀ j, k ≤ j → j < k + m → byt (ws + j) = (tq_byt.getD wi []).getD j 0) ∨ (nmL byt ws wi m k = 0 ∧ ∃ j, k ≤ j ∧ j < k + m ∧ ¬ byt (ws + j) = (tq_byt.getD wi []).getD j 0)
  | 0, k => Or.inl ⟨rfl, fun j h1 h2 => absurd h1 (by omega)⟩
  | m + 1, k => by
    unfold nmL
    by_cases h : byt (ws + k) = (tq_byt.getD wi []).getD k 0
    · rw [if_pos h]
      rcases nmL_i byt ws wi m (k + 1) with ⟨a, b⟩ | ⟨a, j, b, c, d⟩
      · refine Or.inl ⟨a, fun j h1 h2 => ?_⟩
        by_cases e : j = k
        · rw [e]; exact h
        · exact b j (by omega) (by omega)
      · exact Or.inr ⟨a, j, by omega, by omega, d⟩
    · rw [if_neg h]
      exact Or.inr ⟨rfl, k, by omega, by omega, h⟩
theorem nm_eq {byt : Nat → Int32} {tsz S E w : Nat} (hw : w < 15) (hSE : S ≤ E) (hE : E ≤ tsz) (ht : tsz ≤ 200) (hl : ∀ j, S ≤ j → j < E → sortB (byt j) = 1) (hb : ∀ j, isB (byt j)) : nmO byt tsz S E w = nmR byt 1 S E w := by
  have h8 := tq_8 hw
  have lo : ∀ j, j < E - S → (if nI E ≤ nI (S + j) then 32 else baF byt tsz (S + j)) = byt (S + j) := fun j hj => by
    rw [if_neg (nI_ge (by omega) (by omega))]
    unfold baF
    rw [if_neg (nI_ge (by omega) (by omega))]
    exact (isB_w (hb (S + j))).2.2.2.2.1 (hl _ (by omega) (by omega))
  have hi : ∀ j, E - S ≤ j → j < 8 → (if nI E ≤ nI (S + j) then 32 else baF byt tsz (S + j)) = 32 := fun j hj h2 => if_pos (nI_le (by omega) (by omega))
  have hR : nmR byt 1 S E w = (if nI (E - S) = nI (tq_len.getD w 0) then nmL byt S w (tq_len.getD w 0) 0 else 0) := if_pos rfl
  rw [hR]
  unfold nmO
  by_cases hn : E - S = tq_len.getD w 0
  · rw [if_neg (show ¬ (8 : Int32) < nI (E - S) from nI_nlt (a := 8) (by omega) (by omega)), if_pos (show nI (E - S) = nI (tq_len.getD w 0) by rw [hn])]
    rcases nmB_i byt tsz S E w 8 0 with ⟨a, b⟩ | ⟨a, j, b, c, d⟩
    · rcases nmL_i byt S w (tq_len.getD w 0) 0 with ⟨a2, b2⟩ | ⟨a2, j, b2, c2, d2⟩
      · rw [a, a2]
      · exfalso
        apply d2
        have h1 := b j (by omega) (by omega)
        rw [mlet_t w hw j (by omega), if_pos (by omega), lo j (by omega)] at h1
        exact h1.symm
    · rcases nmL_i byt S w (tq_len.getD w 0) 0 with ⟨a2, b2⟩ | ⟨a2, j2, b2, c2, d2⟩
      · exfalso
        apply d
        rw [mlet_t w hw j (by omega)]
        by_cases hj : j < tq_len.getD w 0
        · rw [if_pos hj, lo j (by omega)]; exact (b2 j (by omega) (by omega)).symm
        · rw [if_neg hj, hi j (by omega) (by omega)]
      · rw [a, a2]
  · rw [if_neg (fun q => hn ((nI_eq (by omega) (by omega)).mp q))]
    by_cases h8n : (8 : Int32) < nI (E - S)
    · rw [if_pos h8n]
    · rw [if_neg h8n]
      have h8m : E - S ≤ 8 := Nat.not_lt.mp (fun q => h8n (nI_lt (a := 8) q (by omega)))
      rcases nmB_i byt tsz S E w 8 0 with ⟨a, b⟩ | ⟨a, j, b, c, d⟩
      · exfalso
        by_cases hlt : E - S < tq_len.getD w 0
        · have h1 := b (E - S) (by omega) (by omega)
          rw [mlet_t w hw _ (by omega), if_pos hlt, hi _ (Nat.le_refl _) (by omega)] at h1
          exact tq_32 w hw _ (by omega) hlt h1
        · have h1 := b (tq_len.getD w 0) (by omega) (by omega)
          rw [mlet_t w hw _ (by omega), if_neg (by omega), lo _ (by omega)] at h1
          exact (isB_w (hb (S + tq_len.getD w 0))).2.2.2.2.2.2.2.1 (hl _ (by omega) (by omega)) h1.symm
      · exact a
/-- the name's number, as the model finds it -/
def tnM (byt : Nat → Int32) (tsz S E : Nat) : Nat → Int32
  | 0 => 101
  | w + 1 => if nmO byt tsz S E w = 0 then tnM byt tsz S E w else nI w
def tkW (byt : Nat → Int32) (S E : Nat) : Nat → Int32
  | 0 => 101
  | w + 1 => if nmR byt 1 S E w = 0 then tkW byt S E w else nI w
theorem tn_eq {byt : Nat → Int32} {tsz S E : Nat} (hSE : S ≤ E) (hE : E ≤ tsz) (ht : tsz ≤ 200) (hl : ∀ j, S ≤ j → j < E → sortB (byt j) = 1) (hb : ∀ j, isB (byt j)) : ∀ n, n ≤ 15 → tnM byt tsz S E n = tkW byt S E n
  | 0, _ => rfl
  | n + 1, h => by
    unfold tnM tkW
    rw [nm_eq (by omega) hSE hE ht hl hb, tn_eq hSE hE ht hl hb n (by omega)]
theorem nm_one {byt : Nat → Int32} {S E w v : Nat} (hw : w < 15) (hv : v < 15) (h1 : ¬ nmR byt 1 S E w = 0) (h2 : ¬ nmR byt 1 S E v = 0) : w = v := by
  have f : ∀ w, w < 15 → ¬ nmR byt 1 S E w = 0 → nI (E - S) = nI (tq_len.getD w 0) ∧ ∀ j, j < tq_len.getD w 0 → byt (S + j) = (tq_byt.getD w []).getD j 0 := by
    intro w hw h
    have hR : nmR byt 1 S E w = (if nI (E - S) = nI (tq_len.getD w 0) then nmL byt S w (tq_len.getD w 0) 0 else 0) := if_pos rfl
    rw [hR] at h
    by_cases q : nI (E - S) = nI (tq_len.getD w 0)
    · rw [if_pos q] at h
      rcases nmL_i byt S w (tq_len.getD w 0) 0 with ⟨a, b⟩ | ⟨a, -⟩
      · exact ⟨q, fun j hj => b j (by omega) (by omega)⟩
      · exact absurd a h
    · rw [if_neg q] at h; exact absurd rfl h
  refine Classical.byContradiction (fun hne => ?_)
  obtain ⟨l1, b1⟩ := f w hw h1
  obtain ⟨l2, b2⟩ := f v hv h2
  have e : tq_len.getD w 0 = tq_len.getD v 0 := (nI_eq (by have := tq_8 hw; omega) (by have := tq_8 hv; omega)).mp (l1.symm.trans l2)
  obtain ⟨k, -, hk, hd⟩ := tq_ne w hw v hv hne e
  exact hd ((b1 k hk).symm.trans (b2 k (by omega)))
theorem tkW_hit {byt : Nat → Int32} {S E w : Nat} (h : ¬ nmR byt 1 S E w = 0) : ∀ n, w < n → n ≤ 15 → tkW byt S E n = nI w
  | 0, h1, _ => absurd h1 (by omega)
  | n + 1, h1, h2 => by
    unfold tkW
    by_cases e : w = n
    · rw [← e, if_neg h]
    · have hz : nmR byt 1 S E n = 0 := Classical.byContradiction (fun q => e (nm_one (by omega) (by omega) h q))
      rw [if_pos hz, tkW_hit h n (by omega) (by omega)]
theorem tkW_v (byt : Nat → Int32) (S E : Nat) : ∀ n, n ≤ 15 → tkW byt S E n = 101 ∨ ∃ w, w < n ∧ ¬ nmR byt 1 S E w = 0 ∧ tkW byt S E n = nI w
  | 0, _ => Or.inl rfl
  | n + 1, h => by
    unfold tkW
    by_cases q : nmR byt 1 S E n = 0
    · rw [if_pos q]
      rcases tkW_v byt S E n (by omega) with a | ⟨w, b, c, d⟩
      · exact Or.inl a
      · exact Or.inr ⟨w, by omega, c, d⟩
    · rw [if_neg q]; exact Or.inr ⟨n, by omega, q, rfl⟩
/-- the word read from x, as the model tells it -/
def tkF (byt : Nat → Int32) (tsz x : Nat) : Int32 := if wdO byt tsz x = 0 then -1 else if wdO byt tsz x = 1 then tkW byt (wdS byt tsz x) (wdE byt tsz x) 15 else if wdO byt tsz x = 2 then (if nI (wdE byt tsz x - wdS byt tsz x) ≤ 3 then 100 else 101) else 200 + (byt (wdS byt tsz x) &&& 255)
def vOk (byt : Nat → Int32) (tsz x : Nat) (o : Int32) : Prop := wdO byt tsz x = 2 → nI (wdE byt tsz x - wdS byt tsz x) ≤ 3 → o = vnR byt (wdS byt tsz x) (wdE byt tsz x - wdS byt tsz x)
theorem wdO_v {byt : Nat → Int32} (hb : ∀ j, isB (byt j)) (tsz x : Nat) : wdO byt tsz x = 0 ∨ wdO byt tsz x = 1 ∨ wdO byt tsz x = 2 ∨ wdO byt tsz x = 3 := by
  unfold wdO
  by_cases h : nI (wdS byt tsz x) < nI tsz
  · rw [if_pos h]; exact Or.inr (isB_w (hb _)).2.2.2.2.2.2.2.2
  · rw [if_neg h]; exact Or.inl rfl
theorem nI_ne {a b : Nat} (ha : a < 2 ^ 31) (hb : b < 2 ^ 31) (h : a ≠ b) : ¬ nI a = nI b := fun q => h ((nI_eq ha hb).mp q)
theorem m1_ne {a : Nat} (ha : a < 2 ^ 31) : ¬ (-1 : Int32) = nI a := fun q => absurd (show nI a < 0 by rw [← q]; decide) (nI_pos ha)
theorem tk_nm {byt : Nat → Int32} (hb : ∀ j, isB (byt j)) {tsz x w : Nat} (hw : w < 15) : tkF byt tsz x = nI w ↔ ¬ nmR byt (wdO byt tsz x) (wdS byt tsz x) (wdE byt tsz x) w = 0 := by
  unfold tkF
  rcases wdO_v hb tsz x with h | h | h | h
  · rw [h, if_pos rfl]; exact ⟨fun q => absurd q (m1_ne (by omega)), fun q => absurd rfl q⟩
  · rw [h, if_neg (by decide), if_pos rfl]
    refine ⟨fun q => ?_, fun q => tkW_hit q 15 hw (Nat.le_refl _)⟩
    rcases tkW_v byt (wdS byt tsz x) (wdE byt tsz x) 15 (Nat.le_refl _) with a | ⟨v, b, c, d⟩
    · rw [a] at q; exact absurd q (nI_ne (a := 101) (by omega) (by omega) (by omega))
    · rw [d] at q
      rw [← (nI_eq (by omega) (by omega)).mp q]; exact c
  · rw [h, if_neg (by decide), if_neg (by decide), if_pos rfl]
    refine ⟨fun q => ?_, fun q => absurd rfl q⟩
    by_cases l : nI (wdE byt tsz x - wdS byt tsz x) ≤ 3
    · rw [if_pos l] at q; exact absurd q (nI_ne (a := 100) (by omega) (by omega) (by omega))
    · rw [if_neg l] at q; exact absurd q (nI_ne (a := 101) (by omega) (by omega) (by omega))
  · rw [h, if_neg (by decide), if_neg (by decide), if_neg (by decide)]
    refine ⟨fun q => ?_, fun q => absurd rfl q⟩
    obtain ⟨n, hn, e⟩ := isB_u (hb (wdS byt tsz x))
    rw [e, show (200 : Int32) + nI n = nI (200 + n) from nI_add 200 n] at q
    exact absurd q (nI_ne (by omega) (by omega) (by omega))
theorem tk_end {byt : Nat → Int32} (hb : ∀ j, isB (byt j)) {tsz x : Nat} : tkF byt tsz x = -1 ↔ wdO byt tsz x = 0 := by
  unfold tkF
  rcases wdO_v hb tsz x with h | h | h | h
  · rw [h, if_pos rfl]; exact ⟨fun _ => rfl, fun _ => rfl⟩
  · rw [h, if_neg (by decide), if_pos rfl]
    refine ⟨fun q => ?_, fun q => absurd q (by decide)⟩
    rcases tkW_v byt (wdS byt tsz x) (wdE byt tsz x) 15 (Nat.le_refl _) with a | ⟨v, b, c, d⟩
    · rw [a] at q; exact absurd q (by decide)
    · rw [d] at q; exact absurd q.symm (m1_ne (by omega))
  · rw [h, if_neg (by decide), if_neg (by decide), if_pos rfl]
    refine ⟨fun q => ?_, fun q => absurd q (by decide)⟩
    by_cases l : nI (wdE byt tsz x - wdS byt tsz x) ≤ 3
    · rw [if_pos l] at q; exact absurd q (by decide)
    · rw [if_neg l] at q; exact absurd q (by decide)
  · rw [h, if_neg (by decide), if_neg (by decide), if_neg (by decide)]
    refine ⟨fun q => ?_, fun q => absurd q (by decide)⟩
    obtain ⟨n, hn, e⟩ := isB_u (hb (wdS byt tsz x))
    rw [e, show (200 : Int32) + nI n = nI (200 + n) from nI_add 200 n] at q
    exact absurd q.symm (m1_ne (by omega))
theorem tk_semi {byt : Nat → Int32} (hb : ∀ j, isB (byt j)) {tsz x : Nat} : tkF byt tsz x = 259 ↔ ¬ f_X7_isSemicolon (wdO byt tsz x) (wdS byt tsz x) byt = 0 := by
  unfold tkF f_X7_isSemicolon
  rcases wdO_v hb tsz x with h | h | h | h
  · rw [h, if_pos rfl, if_neg (by decide)]; exact ⟨fun q => absurd q (by decide), fun q => absurd rfl q⟩
  · rw [h, if_neg (by decide), if_pos rfl, if_neg (by decide)]
    refine ⟨fun q => ?_, fun q => absurd rfl q⟩
    rcases tkW_v byt (wdS byt tsz x) (wdE byt tsz x) 15 (Nat.le_refl _) with a | ⟨v, b, c, d⟩
    · rw [a] at q; exact absurd q (by decide)
    · rw [d] at q; exact absurd q (nI_ne (b := 259) (by omega) (by omega) (by omega))
  · rw [h, if_neg (by decide), if_neg (by decide), if_pos rfl, if_neg (show ¬ (2 : Int32) = 3 by decide)]
    refine ⟨fun q => ?_, fun q => absurd rfl q⟩
    by_cases l : nI (wdE byt tsz x - wdS byt tsz x) ≤ 3
    · rw [if_pos l] at q; exact absurd q (by decide)
    · rw [if_neg l] at q; exact absurd q (by decide)
  · rw [h, if_neg (by decide), if_neg (by decide), if_neg (by decide), if_pos rfl]
    obtain ⟨n, hn, e⟩ := isB_u (hb (wdS byt tsz x))
    have h59 := (isB_w (hb (wdS byt tsz x))).2.2.2.2.2.2.1
    rw [e] at h59
    rw [e, show (200 : Int32) + nI n = nI (200 + n) from nI_add 200 n]
    constructor
    · intro q
      have : 200 + n = 259 := (nI_eq (b := 259) (by omega) (by omega)).mp q
      have h1 : byt (wdS byt tsz x) = 59 := h59.mp (by rw [show n = 59 by omega]; rfl)
      rw [if_pos h1]; decide
    · intro q
      by_cases h1 : byt (wdS byt tsz x) = 59
      · have h2 : nI n = nI 59 := h59.mpr h1
        have h3 : n = 59 := (nI_eq (by omega) (by omega)).mp h2
        rw [h3]; rfl
      · rw [if_neg h1] at q; exact absurd rfl q
theorem tk_num {byt : Nat → Int32} (hb : ∀ j, isB (byt j)) {tsz x : Nat} : tkF byt tsz x = 100 ↔ wdO byt tsz x = 2 ∧ nI (wdE byt tsz x - wdS byt tsz x) ≤ 3 := by
  unfold tkF
  rcases wdO_v hb tsz x with h | h | h | h
  · rw [h, if_pos rfl]; exact ⟨fun q => absurd q (by decide), fun q => absurd q.1 (by decide)⟩
  · rw [h, if_neg (by decide), if_pos rfl]
    refine ⟨fun q => ?_, fun q => absurd q.1 (by decide)⟩
    rcases tkW_v byt (wdS byt tsz x) (wdE byt tsz x) 15 (Nat.le_refl _) with a | ⟨v, b, c, d⟩
    · rw [a] at q; exact absurd q (by decide)
    · rw [d] at q; exact absurd q (nI_ne (b := 100) (by omega) (by omega) (by omega))
  · rw [h, if_neg (by decide), if_neg (by decide), if_pos rfl]
    by_cases l : nI (wdE byt tsz x - wdS byt tsz x) ≤ 3
    · rw [if_pos l]; exact ⟨fun _ => ⟨rfl, l⟩, fun _ => rfl⟩
    · rw [if_neg l]; exact ⟨fun q => absurd q (by decide), fun q => absurd q.2 l⟩
  · rw [h, if_neg (by decide), if_neg (by decide), if_neg (by decide)]
    refine ⟨fun q => ?_, fun q => absurd q.1 (by decide)⟩
    obtain ⟨n, hn, e⟩ := isB_u (hb (wdS byt tsz x))
    rw [e, show (200 : Int32) + nI n = nI (200 + n) from nI_add 200 n] at q
    exact absurd q (nI_ne (b := 100) (by omega) (by omega) (by omega))
theorem rd_y {byt : Nat → Int32} (hb : ∀ j, isB (byt j)) {tsz x : Nat} {o most : Int32} (ht : tkF byt tsz x = 100) (hv : vOk byt tsz x o) (hm : ¬ most < o) : o = rdN byt tsz x most := by
  obtain ⟨h1, h2⟩ := (tk_num hb).mp ht
  have e := hv h1 h2
  unfold rdN
  rw [if_pos h1, if_pos h2, if_pos (by rw [← e]; exact Int32.not_lt.mp hm), e]
theorem rd_n1 {byt : Nat → Int32} (hb : ∀ j, isB (byt j)) {tsz x : Nat} {most : Int32} (ht : ¬ tkF byt tsz x = 100) : -1 = rdN byt tsz x most := by
  unfold rdN
  by_cases h1 : wdO byt tsz x = 2
  · rw [if_pos h1]
    by_cases h2 : nI (wdE byt tsz x - wdS byt tsz x) ≤ 3
    · exact absurd ((tk_num hb).mpr ⟨h1, h2⟩) ht
    · rw [if_neg h2]
  · rw [if_neg h1]
theorem rd_n2 {byt : Nat → Int32} (hb : ∀ j, isB (byt j)) {tsz x : Nat} {o most : Int32} (ht : tkF byt tsz x = 100) (hv : vOk byt tsz x o) (hm : most < o) : -1 = rdN byt tsz x most := by
  obtain ⟨h1, h2⟩ := (tk_num hb).mp ht
  have e := hv h1 h2
  unfold rdN
  rw [if_pos h1, if_pos h2, if_neg (by rw [← e]; exact Int32.not_le.mpr hm)]
theorem ba_32 {byt : Nat → Int32} {tsz j m : Nat} (hb : isB (byt j)) (h : baF byt tsz j = 32) : skB byt tsz (m + 1) j = skB byt tsz m (j + 1) ∧ ¬ nI tsz ≤ nI j := by
  unfold baF at h
  by_cases q : nI tsz ≤ nI j
  · rw [if_pos q] at h; exact absurd h (by decide)
  · rw [if_neg q] at h
    exact ⟨(if_neg q).trans (if_pos ((isB_w hb).1.mp h)), q⟩
theorem ba_n32 {byt : Nat → Int32} {tsz j m : Nat} (hb : isB (byt j)) (h : ¬ baF byt tsz j = 32) : skB byt tsz (m + 1) j = j := by
  unfold baF at h
  by_cases q : nI tsz ≤ nI j
  · exact if_pos q
  · rw [if_neg q] at h
    exact (if_neg q).trans (if_neg (fun z => h ((isB_w hb).1.mpr z)))
theorem en_1 {byt : Nat → Int32} {tsz j m : Nat} (hb : isB (byt j)) (h : nO (baF byt tsz j) 97 122 = 0) : enB byt tsz 1 (m + 1) j = j := by
  unfold baF at h
  by_cases q : nI tsz ≤ nI j
  · exact if_pos q
  · rw [if_neg q] at h
    exact (if_neg q).trans (if_neg ((isB_w hb).2.1.mp h))
theorem en_1n {byt : Nat → Int32} {tsz j m : Nat} (hb : isB (byt j)) (h : ¬ nO (baF byt tsz j) 97 122 = 0) : enB byt tsz 1 (m + 1) j = enB byt tsz 1 m (j + 1) ∧ ¬ nI tsz ≤ nI j ∧ sortB (byt j) = 1 := by
  unfold baF at h
  by_cases q : nI tsz ≤ nI j
  · rw [if_pos q] at h; exact absurd (by decide) h
  · rw [if_neg q] at h
    have hs : sortB (byt j) = 1 := Classical.byContradiction (fun z => h ((isB_w hb).2.1.mpr z))
    exact ⟨(if_neg q).trans (if_pos hs), q, hs⟩
theorem en_2 {byt : Nat → Int32} {tsz j m : Nat} (hb : isB (byt j)) (h : nO (baF byt tsz j) 48 57 = 0) : enB byt tsz 2 (m + 1) j = j := by
  unfold baF at h
  by_cases q : nI tsz ≤ nI j
  · exact if_pos q
  · rw [if_neg q] at h
    exact (if_neg q).trans (if_neg ((isB_w hb).2.2.1.mp h))
theorem en_2n {byt : Nat → Int32} {tsz j m : Nat} (hb : isB (byt j)) (h : ¬ nO (baF byt tsz j) 48 57 = 0) : enB byt tsz 2 (m + 1) j = enB byt tsz 2 m (j + 1) ∧ ¬ nI tsz ≤ nI j ∧ sortB (byt j) = 2 ∧ baF byt tsz j = byt j := by
  have h0 := h
  unfold baF at h
  by_cases q : nI tsz ≤ nI j
  · rw [if_pos q] at h; exact absurd (by decide) h
  · rw [if_neg q] at h
    have hs : sortB (byt j) = 2 := Classical.byContradiction (fun z => h ((isB_w hb).2.2.1.mpr z))
    exact ⟨(if_neg q).trans (if_pos hs), q, hs, (if_neg q).trans ((isB_w hb).2.2.2.2.2.1 hs)⟩
/-- all that a row of one sort goes over is of that sort -/
theorem en_all (byt : Nat → Int32) (tsz : Nat) (so : Int32) : ∀ m j i, j ≤ i → i < enB byt tsz so m j → sortB (byt i) = so
  | 0, j, i, h1, h2 => absurd h2 (by show ¬ i < j; omega)
  | m + 1, j, i, h1, h2 => by
    by_cases q : nI tsz ≤ nI j
    · rw [show enB byt tsz so (m + 1) j = j from if_pos q] at h2; exact absurd h2 (by omega)
    · by_cases r : sortB (byt j) = so
      · rw [show enB byt tsz so (m + 1) j = enB byt tsz so m (j + 1) from (if_neg q).trans (if_pos r)] at h2
        by_cases e : i = j
        · rw [e]; exact r
        · exact en_all byt tsz so m (j + 1) i (by omega) h2
      · rw [show enB byt tsz so (m + 1) j = j from (if_neg q).trans (if_neg r)] at h2; exact absurd h2 (by omega)
theorem wd_end {byt : Nat → Int32} (hb : ∀ j, isB (byt j)) {tsz x : Nat} (h : ¬ 0 ≤ baF byt tsz (wdS byt tsz x)) : wdO byt tsz x = 0 ∧ wdE byt tsz x = wdS byt tsz x := by
  unfold baF at h
  by_cases q : nI tsz ≤ nI (wdS byt tsz x)
  · exact ⟨if_neg (Int32.not_lt.mpr q), if_neg (Int32.not_lt.mpr q)⟩
  · rw [if_neg q] at h; exact absurd (isB_w (hb _)).2.2.2.1 h
theorem ba_lt {byt : Nat → Int32} {tsz j : Nat} (hj : j < 2 ^ 31) (htz : tsz < 2 ^ 31) (h : 0 ≤ baF byt tsz j) : j < tsz := by
  unfold baF at h
  by_cases q : nI tsz ≤ nI j
  · rw [if_pos q] at h; exact absurd h (by decide)
  · exact Nat.not_le.mp (fun z => q (nI_le z hj))
theorem wd_in {byt : Nat → Int32} {tsz x : Nat} {so : Int32} (h : wdS byt tsz x < tsz) (ht : tsz ≤ 200) (hs : sortB (byt (wdS byt tsz x)) = so) (h3 : ¬ so = 3) : wdO byt tsz x = so ∧ wdE byt tsz x = enB byt tsz so (tsz - wdS byt tsz x + 1) (wdS byt tsz x) := by
  have hl : nI (wdS byt tsz x) < nI tsz := nI_lt h (by omega)
  refine ⟨(if_pos hl).trans hs, ?_⟩
  have h1 : wdE byt tsz x = enB byt tsz so (tsz - (wdS byt tsz x + 1) + 1) (wdS byt tsz x + 1) := by
    unfold wdE
    rw [if_pos hl, hs, if_neg h3]
  have h2 : enB byt tsz so (tsz - wdS byt tsz x + 1) (wdS byt tsz x) = enB byt tsz so (tsz - wdS byt tsz x) (wdS byt tsz x + 1) := (if_neg (nI_ge h (by omega))).trans (if_pos hs)
  rw [h1, h2, show tsz - (wdS byt tsz x + 1) + 1 = tsz - wdS byt tsz x by omega]
theorem wd_3 {byt : Nat → Int32} {tsz x : Nat} (h : wdS byt tsz x < tsz) (ht : tsz ≤ 200) (hs : sortB (byt (wdS byt tsz x)) = 3) : wdO byt tsz x = 3 ∧ wdE byt tsz x = wdS byt tsz x + 1 := by
  have hl : nI (wdS byt tsz x) < nI tsz := nI_lt h (by omega)
  exact ⟨(if_pos hl).trans hs, (if_pos hl).trans (if_pos hs)⟩
abbrev rmX11_byteAt : Room := { frames := 0, cells := 0, slots := 0, locals := 0 }
set_option maxHeartbeats 4000000 in
set_option maxRecDepth 100000 in
theorem c_X11_byteAt (l : Launch) (g : GG) (oh : Nat) (os : Nat) (ok : Nat) (ol : Nat) (ord : Nat) (odd : Nat) (otp : Nat) (olt : Nat) (orw : Nat) (oso : Nat) (osz : Nat) (oit : Nat) (oho : Nat) (ohe : Nat) (otr : Nat) (isk : Int32) (tpd : Nat) (oat : Int32) (obg : Int32) (otk : Int32) (ovl : Int32) (rmn : Nat) (tcd : Nat) (own_ : Int32) (opt : Int32) (byt : Nat → Int32) (k : Nat) (htz : tpd ≤ 200) (hk2 : k ≤ 200) : mt l g yX11_byteAt wsX11_byteAt rmX11_byteAt [.ref oh, .int (nI k)] [cob oh 11 [.ref os, .ref ok, .ref ol, .ref ord, .int isk, .ref odd, .ref otp, .int (nI tpd), .ref olt, .int oat, .int obg, .int otk, .int ovl, .ref orw, .int (nI rmn), .ref oso, .ref osz, .ref oit, .ref oho, .ref ohe, .ref otr, .int (nI tcd), .int own_, .int opt], cin g otp 200 (ubT byt)] (some (.int (baF byt tpd k))) [cob oh 11 [.ref os, .ref ok, .ref ol, .ref ord, .int isk, .ref odd, .ref otp, .int (nI tpd), .ref olt, .int oat, .int obg, .int otk, .int ovl, .ref orw, .int (nI rmn), .ref oso, .ref osz, .ref oit, .ref oho, .ref ohe, .ref otr, .int (nI tcd), .int own_, .int opt], cin g otp 200 (ubT byt)] := by
  refine mt.of (cc := cX11_byteAt) (nL := 2) (ret := (some .int)) (own := RX11) (by decide +kernel) rfl rfl (show ([oh, otp] : List Nat) = [oh, otp] from rfl) (Nat.le_of_ble_eq_true rfl) (fun p e s m below meth c hf hr hlk _ hk hst hw ls hl => ?_)
  have hx := hf.1
  have hb := hf.2.1
  have hts := hf.2.2.2.2
  have hl : lv_has ls 2 [(0, .ref oh), (1, .int (nI k))] := hl
  have hinX11 : ∀ w ∈ u_ws RX11 TX11 24, w ∈ wsX11_byteAt := fun w h => List.mem_cons_of_mem _ (List.mem_append_right _ h)
  have w_0 : Cond.fieldLink RX11 106 "LightManModel" "taped" "I" ∈ wsX11_byteAt := List.mem_of_getElem? (i := 1) rfl
  have w_1 : Cond.fieldLink RX11 25 "LightManModel" "tape" "[I" ∈ wsX11_byteAt := List.mem_of_getElem? (i := 2) rfl
  refine lv_iload_n hx hb dX11_byteAt_0 rfl (lv_at hl 1 rfl) ?_
  refine lv_aload_n hx hb dX11_byteAt_1 rfl (lv_at hl 0 rfl) ?_
  refine rg hf hk hw hinX11 0 rfl rfl 7 (by decide) w_0 rfl dX11_byteAt_2 ?_
  refine lv_icmp_ge (tgt := 17) hx hb dX11_byteAt_5 (by decide) (fun c_1 => ?_) (fun c_1 => ?_)
  · refine lv_iconst (v := (-1)) hx hb dX11_byteAt_17 (by decide) ?_
    exact re_i hf hr hlk hw (by unfold baF; rw [if_pos c_1]) (rfl) dX11_byteAt_18
  · have hlt : k < tpd := Nat.not_le.mp (fun h => c_1 ((nI_leI (by omega) (by omega)).mpr h))
    refine lv_aload_n hx hb dX11_byteAt_8 rfl (lv_at hl 0 rfl) ?_
    refine rg hf hk hw hinX11 0 rfl rfl 6 (by decide) w_1 rfl dX11_byteAt_9 ?_
    refine lv_iload_n hx hb dX11_byteAt_12 rfl (lv_at hl 1 rfl) ?_
    refine rij hf hk hw 1 rfl (j := k) (vp_in_nI (by omega) (by omega)) (nI_clamp (by omega)) dX11_byteAt_13 ?_
    refine lv_goto (tgt := 18) hx hb dX11_byteAt_14 (by decide) ?_
    exact re_i hf hr hlk hw (by unfold baF; rw [if_neg c_1]; rfl) (rfl) dX11_byteAt_18
theorem hdV_X11_byteAt : yX11_byteAt.cls = RX11 ∧ yX11_byteAt.cls ≠ "java/lang/invoke/MethodHandle" ∧ yX11_byteAt.cls ≠ "java/lang/invoke/VarHandle" ∧ (parseMethodDescriptor yX11_byteAt.desc).map (fun d => d.parameters.length) = some 1 := by decide +kernel
abbrev rmX11_isNameOf : Room := { frames := 1, cells := 0, slots := 0, locals := 21 }
set_option maxHeartbeats 4000000 in
set_option maxRecDepth 100000 in
theorem c_X11_isNameOf (l : Launch) (g : GG) (oh : Nat) (os : Nat) (ok : Nat) (ol : Nat) (ord : Nat) (odd : Nat) (otp : Nat) (olt : Nat) (orw : Nat) (oso : Nat) (osz : Nat) (oit : Nat) (oho : Nat) (ohe : Nat) (otr : Nat) (isk : Int32) (tpd : Nat) (otk : Int32) (ovl : Int32) (rmn : Nat) (tcd : Nat) (own_ : Int32) (opt : Int32) (byt : Nat → Int32) (S : Nat) (E : Nat) (w : Nat) (htz : tpd ≤ 200) (hby : ∀ j, isB (byt j)) (hw15 : w < 15) (hSE : S ≤ E) (hE : E ≤ tpd) : mt l g yX11_isNameOf wsX11_isNameOf rmX11_isNameOf [.ref oh, .int (nI w)] [cob oh 11 [.ref os, .ref ok, .ref ol, .ref ord, .int isk, .ref odd, .ref otp, .int (nI tpd), .ref olt, .int (nI E), .int (nI S), .int otk, .int ovl, .ref orw, .int (nI rmn), .ref oso, .ref osz, .ref oit, .ref oho, .ref ohe, .ref otr, .int (nI tcd), .int own_, .int opt], cin g otp 200 (ubT byt), cch g olt 120 mlet] (some (.int (nmO byt tpd S E w))) [cob oh 11 [.ref os, .ref ok, .ref ol, .ref ord, .int isk, .ref odd, .ref otp, .int (nI tpd), .ref olt, .int (nI E), .int (nI S), .int otk, .int ovl, .ref orw, .int (nI rmn), .ref oso, .ref osz, .ref oit, .ref oho, .ref ohe, .ref otr, .int (nI tcd), .int own_, .int opt], cin g otp 200 (ubT byt), cch g olt 120 mlet] := by
  refine mt.of (cc := cX11_isNameOf) (nL := 4) (ret := (some .boolean)) (own := RX11) (by decide +kernel) rfl rfl (show ([oh, otp, olt] : List Nat) = [oh, otp, olt] from rfl) (Nat.le_of_ble_eq_true rfl) (fun p e s m below meth c hf hr hlk _ hk hst hw ls hl => ?_)
  have hx := hf.1
  have hb := hf.2.1
  have hts := hf.2.2.2.2
  have hl : lv_has ls 4 [(0, .ref oh), (1, .int (nI w))] := hl
  have hinX11 : ∀ w ∈ u_ws RX11 TX11 24, w ∈ wsX11_isNameOf := fun w h => List.mem_cons_of_mem _ (List.mem_append_right _ h)
  have w_0 : Cond.fieldLink RX11 110 "LightManModel" "at" "I" ∈ wsX11_isNameOf := List.mem_of_getElem? (i := 1) rfl
  have w_1 : Cond.fieldLink RX11 113 "LightManModel" "begun" "I" ∈ wsX11_isNameOf := List.mem_of_getElem? (i := 2) rfl
  have w_2 : Cond.fieldLink RX11 28 "LightManModel" "letters" "[C" ∈ wsX11_isNameOf := List.mem_of_getElem? (i := 3) rfl
  refine lv_aload_n hx hb dX11_isNameOf_0 rfl (lv_at hl 0 rfl) ?_
  refine rg hf hk hw hinX11 0 rfl rfl 9 (by decide) w_0 rfl dX11_isNameOf_1 ?_
  refine lv_aload_n hx hb dX11_isNameOf_4 rfl (lv_at hl 0 rfl) ?_
  refine rg hf hk hw hinX11 0 rfl rfl 10 (by decide) w_1 rfl dX11_isNameOf_5 ?_
  refine lv_isub hx hb dX11_isNameOf_8 ?_
  refine lv_tope (y := nI (E - S)) (nI_sb hSE) ?_
  refine lv_bipush (v := 8) hx hb dX11_isNameOf_9 (by decide) ?_
  refine lv_icmp_gt (tgt := 18) hx hb dX11_isNameOf_11 (by decide) (fun c_1 => ?_) (fun c_1 => ?_)
  · refine lv_iconst (v := 0) hx hb dX11_isNameOf_18 (by decide) ?_
    refine lv_istore_n (lv' := [(2, .int 0), (0, .ref oh), (1, .int (nI w))]) hx hb dX11_isNameOf_19 rfl hl (by decide) rfl (fun ls hl => ?_)
    refine lv_iconst (v := 0) hx hb dX11_isNameOf_20 (by decide) ?_
    refine lv_istore_n (lv' := [(3, .int 0), (2, .int 0), (0, .ref oh), (1, .int (nI w))]) hx hb dX11_isNameOf_21 rfl hl (by decide) rfl (fun ls hl => ?_)
    have lp_22_1 : ∀ (fu k : Nat) (is_ : Int32), k ≤ 8 → 8 + 1 ≤ k + fu → ((is_ = 1 ∧ nmO byt tpd S E w = nmB byt tpd S E w (8 - k) k) ∨ (is_ = 0 ∧ nmO byt tpd S E w = 0)) → ∀ (H : Heap) (locs : List Loc), hv g (va_I [cob oh 11 [.ref os, .ref ok, .ref ol, .ref ord, .int isk, .ref odd, .ref otp, .int (nI tpd), .ref olt, .int (nI E), .int (nI S), .int otk, .int ovl, .ref orw, .int (nI rmn), .ref oso, .ref osz, .ref oit, .ref oho, .ref ohe, .ref otr, .int (nI tcd), .int own_, .int opt], cin g otp 200 (ubT byt), cch g olt 120 mlet]) s H locs [cob oh 11 [.ref os, .ref ok, .ref ol, .ref ord, .int isk, .ref odd, .ref otp, .int (nI tpd), .ref olt, .int (nI E), .int (nI S), .int otk, .int ovl, .ref orw, .int (nI rmn), .ref oso, .ref osz, .ref oit, .ref oho, .ref ohe, .ref otr, .int (nI tcd), .int own_, .int opt], cin g otp 200 (ubT byt), cch g olt 120 mlet] → ∀ ls : Array Slot, lv_has ls 4 [(3, .int (nI k)), (2, .int is_), (0, .ref oh), (1, .int (nI w))] → W p l e rmX11_isNameOf s m ([.ref oh, .int (nI w)] : List Value).toArray below meth c H locs 0 0 (MQ below (mtQ g [cob oh 11 [.ref os, .ref ok, .ref ol, .ref ord, .int isk, .ref odd, .ref otp, .int (nI tpd), .ref olt, .int (nI E), .int (nI S), .int otk, .int ovl, .ref orw, .int (nI rmn), .ref oso, .ref osz, .ref oit, .ref oho, .ref ohe, .ref otr, .int (nI tcd), .int own_, .int opt], cin g otp 200 (ubT byt), cch g olt 120 mlet] (some (.int (nmO byt tpd S E w))) [cob oh 11 [.ref os, .ref ok, .ref ol, .ref ord, .int isk, .ref odd, .ref otp, .int (nI tpd), .ref olt, .int (nI E), .int (nI S), .int otk, .int ovl, .ref orw, .int (nI rmn), .ref oso, .ref osz, .ref oit, .ref oho, .ref ohe, .ref otr, .int (nI tcd), .int own_, .int opt], cin g otp 200 (ubT byt), cch g olt 120 mlet]) ([.ref oh, .int (nI w)] : List Value).toArray s 0 0 (va_I [cob oh 11 [.ref os, .ref ok, .ref ol, .ref ord, .int isk, .ref odd, .ref otp, .int (nI tpd), .ref olt, .int (nI E), .int (nI S), .int otk, .int ovl, .ref orw, .int (nI rmn), .ref oso, .ref osz, .ref oit, .ref oho, .ref ohe, .ref otr, .int (nI tcd), .int own_, .int opt], cin g otp 200 (ubT byt), cch g olt 120 mlet])) (F0 m 22 ls []) := by
      intro fu
      induction fu with
      | zero =>
        intro k is_ h1 h2
        exact absurd h2 (by omega)
      | succ fu ih_22 =>
        intro k is_ hk1_22 hk2_22 eP H locs hw ls hl
        refine lv_iload_n hx hb dX11_isNameOf_22 rfl (lv_at hl 0 rfl) ?_
        refine lv_bipush (v := 8) hx hb dX11_isNameOf_23 (by decide) ?_
        refine lv_icmp_ge (tgt := 86) hx hb dX11_isNameOf_25 (by decide) (fun c_3 => ?_) (fun c_3 => ?_)
        · have hkE : k = 8 := Nat.le_antisymm hk1_22 ((nI_leI (a := 8) (by omega) (by omega)).mp c_3)
          have hfin : is_ = nmO byt tpd S E w := by rcases eP with h | h; (rw [h.1, h.2, hkE]; rfl); rw [h.1, h.2]
          refine lv_iload_n hx hb dX11_isNameOf_86 rfl (lv_at hl 1 rfl) ?_
          exact re_z hf hr hlk hw (nar_z (by rcases eP with h | h; exact Or.inr h.1; exact Or.inl h.1)) (by rw [hfin]) (rfl) dX11_isNameOf_87
        · have hkE : k < 8 := Nat.not_le.mp (fun h => c_3 ((nI_leI (a := 8) (by omega) (by omega)).mpr h))
          have hm : 8 - k = (8 - (k + 1)) + 1 := by omega
          refine lv_iload_n hx hb dX11_isNameOf_28 rfl (lv_at hl 1 rfl) ?_
          refine lv_if_eq (tgt := 86) hx hb dX11_isNameOf_29 (by decide) (fun c_4 => ?_) (fun c_4 => ?_)
          · have hfin : is_ = nmO byt tpd S E w := by rcases eP with h | h; exact absurd (h.1.symm.trans c_4) (by decide); rw [h.1, h.2]
            refine lv_iload_n hx hb dX11_isNameOf_86 rfl (lv_at hl 1 rfl) ?_
            exact re_z hf hr hlk hw (nar_z (by rcases eP with h | h; exact Or.inr h.1; exact Or.inl h.1)) (by rw [hfin]) (rfl) dX11_isNameOf_87
          · have eP2 : nmO byt tpd S E w = nmB byt tpd S E w (8 - k) k := by rcases eP with h | h; exact h.2; exact absurd h.1 c_4
            refine lv_aload_n hx hb dX11_isNameOf_32 rfl (lv_at hl 2 rfl) ?_
            refine rg hf hk hw hinX11 0 rfl rfl 8 (by decide) w_2 rfl dX11_isNameOf_33 ?_
            refine lv_bipush (v := 8) hx hb dX11_isNameOf_36 (by decide) ?_
            refine lv_iload_n hx hb dX11_isNameOf_38 rfl (lv_at hl 3 rfl) ?_
            refine lv_imul hx hb dX11_isNameOf_39 ?_
            refine lv_tope (y := nI (8 * w)) (pk_mul 8 _) ?_
            refine lv_iload_n hx hb dX11_isNameOf_40 rfl (lv_at hl 0 rfl) ?_
            refine lv_iadd hx hb dX11_isNameOf_41 ?_
            refine lv_tope (y := nI (8 * w + k)) (nI_add _ _) ?_
            refine rcj hf hk hw 2 rfl (j := 8 * w + k) (vp_in_nI (by omega) (by omega)) (nI_clamp (by omega)) dX11_isNameOf_42 ?_
            refine lv_aload_n hx hb dX11_isNameOf_43 rfl (lv_at hl 2 rfl) ?_
            refine rg hf hk hw hinX11 0 rfl rfl 10 (by decide) w_1 rfl dX11_isNameOf_44 ?_
            refine lv_iload_n hx hb dX11_isNameOf_47 rfl (lv_at hl 0 rfl) ?_
            refine lv_iadd hx hb dX11_isNameOf_48 ?_
            refine lv_tope (y := nI (S + k)) (nI_add _ _) ?_
            refine lv_aload_n hx hb dX11_isNameOf_49 rfl (lv_at hl 2 rfl) ?_
            refine rg hf hk hw hinX11 0 rfl rfl 9 (by decide) w_0 rfl dX11_isNameOf_50 ?_
            refine lv_icmp_ge (tgt := 69) hx hb dX11_isNameOf_53 (by decide) (fun c_5 => ?_) (fun c_5 => ?_)
            · have hrh : (if nI E ≤ nI (S + k) then 32 else baF byt tpd (S + k)) = 32 := if_pos c_5
              refine lv_bipush (v := 32) hx hb dX11_isNameOf_69 (by decide) ?_
              refine lv_icmp_ne (tgt := 78) hx hb dX11_isNameOf_71 (by decide) (fun c_6 => ?_) (fun c_6 => ?_)
              · have eN : ((0 : Int32) = 1 ∧ nmO byt tpd S E w = nmB byt tpd S E w (8 - (k + 1)) (k + 1)) ∨ ((0 : Int32) = 0 ∧ nmO byt tpd S E w = 0) := Or.inr ⟨rfl, by rw [eP2, hm]; exact if_neg (by rw [hrh]; exact c_6)⟩
                refine lv_iconst (v := 0) hx hb dX11_isNameOf_78 (by decide) ?_
                refine lv_istore_n (lv' := [(2, .int 0), (3, .int (nI k)), (0, .ref oh), (1, .int (nI w))]) hx hb dX11_isNameOf_79 rfl hl (by decide) rfl (fun ls hl => ?_)
                refine lv_iinc (v := nI (k + 1)) (lv' := [(3, .int (nI (k + 1))), (2, .int 0), (0, .ref oh), (1, .int (nI w))]) hx hb dX11_isNameOf_80 hl (k := 1) rfl (nI_1 _) (by decide) rfl (fun ls hl => ?_)
                refine lv_goto (tgt := 22) hx hb dX11_isNameOf_83 (by decide) ?_
                exact ih_22 (k + 1) 0 (by omega) (by omega) (eN) _ _ hw _ (lv_sub hl [0, 1, 2, 3] rfl)
              · have eN : ((1 : Int32) = 1 ∧ nmO byt tpd S E w = nmB byt tpd S E w (8 - (k + 1)) (k + 1)) ∨ ((1 : Int32) = 0 ∧ nmO byt tpd S E w = 0) := Or.inl ⟨rfl, by rw [eP2, hm]; exact if_pos (by rw [hrh]; exact c_6)⟩
                refine lv_iconst (v := 1) hx hb dX11_isNameOf_74 (by decide) ?_
                refine lv_goto (tgt := 79) hx hb dX11_isNameOf_75 (by decide) ?_
                refine lv_istore_n (lv' := [(2, .int 1), (3, .int (nI k)), (0, .ref oh), (1, .int (nI w))]) hx hb dX11_isNameOf_79 rfl hl (by decide) rfl (fun ls hl => ?_)
                refine lv_iinc (v := nI (k + 1)) (lv' := [(3, .int (nI (k + 1))), (2, .int 1), (0, .ref oh), (1, .int (nI w))]) hx hb dX11_isNameOf_80 hl (k := 1) rfl (nI_1 _) (by decide) rfl (fun ls hl => ?_)
                refine lv_goto (tgt := 22) hx hb dX11_isNameOf_83 (by decide) ?_
                exact ih_22 (k + 1) 1 (by omega) (by omega) (eN) _ _ hw _ (lv_sub hl [0, 1, 2, 3] rfl)
            · have hrh : (if nI E ≤ nI (S + k) then 32 else baF byt tpd (S + k)) = baF byt tpd (S + k) := if_neg c_5
              have hlt : S + k < E := Nat.not_le.mp (fun h => c_5 ((nI_leI (by omega) (by omega)).mpr h))
              refine lv_aload_n hx hb dX11_isNameOf_56 rfl (lv_at hl 2 rfl) ?_
              refine lv_aload_n hx hb dX11_isNameOf_57 rfl (lv_at hl 2 rfl) ?_
              refine rg hf hk hw hinX11 0 rfl rfl 10 (by decide) w_1 rfl dX11_isNameOf_58 ?_
              refine lv_iload_n hx hb dX11_isNameOf_61 rfl (lv_at hl 0 rfl) ?_
              refine lv_iadd hx hb dX11_isNameOf_62 ?_
              refine lv_tope (y := nI (S + k)) (nI_add _ _) ?_
              refine mcV hf hk hst hw (c_X11_byteAt l g oh os ok ol ord odd otp olt orw oso osz oit oho ohe otr isk tpd (nI E) (nI S) otk ovl rmn tcd own_ opt byt (S + k) (by omega) (by omega)) (cwV 1 hts gX11_isNameOf_X11_byteAt rfl rfl rfl hdV_X11_byteAt ⟨Nat.le_of_ble_eq_true rfl, Nat.le_of_ble_eq_true rfl⟩) [0, 1] rfl rfl 0 rfl rfl rfl hl.1 rfl (Nat.le_of_ble_eq_true rfl) dX11_isNameOf_63 ⟨Nat.zero_le _, Nat.zero_le _⟩ (W' := [cob oh 11 [.ref os, .ref ok, .ref ol, .ref ord, .int isk, .ref odd, .ref otp, .int (nI tpd), .ref olt, .int (nI E), .int (nI S), .int otk, .int ovl, .ref orw, .int (nI rmn), .ref oso, .ref osz, .ref oit, .ref oho, .ref ohe, .ref otr, .int (nI tcd), .int own_, .int opt], cin g otp 200 (ubT byt), cch g olt 120 mlet]) rfl (fun H locs hw => ?_)
              refine lv_goto (tgt := 71) hx hb dX11_isNameOf_66 (by decide) ?_
              refine lv_icmp_ne (tgt := 78) hx hb dX11_isNameOf_71 (by decide) (fun c_7 => ?_) (fun c_7 => ?_)
              · have eN : ((0 : Int32) = 1 ∧ nmO byt tpd S E w = nmB byt tpd S E w (8 - (k + 1)) (k + 1)) ∨ ((0 : Int32) = 0 ∧ nmO byt tpd S E w = 0) := Or.inr ⟨rfl, by rw [eP2, hm]; exact if_neg (by rw [hrh]; exact c_7)⟩
                refine lv_iconst (v := 0) hx hb dX11_isNameOf_78 (by decide) ?_
                refine lv_istore_n (lv' := [(2, .int 0), (3, .int (nI k)), (0, .ref oh), (1, .int (nI w))]) hx hb dX11_isNameOf_79 rfl hl (by decide) rfl (fun ls hl => ?_)
                refine lv_iinc (v := nI (k + 1)) (lv' := [(3, .int (nI (k + 1))), (2, .int 0), (0, .ref oh), (1, .int (nI w))]) hx hb dX11_isNameOf_80 hl (k := 1) rfl (nI_1 _) (by decide) rfl (fun ls hl => ?_)
                refine lv_goto (tgt := 22) hx hb dX11_isNameOf_83 (by decide) ?_
                exact ih_22 (k + 1) 0 (by omega) (by omega) (eN) _ _ hw _ (lv_sub hl [0, 1, 2, 3] rfl)
              · have eN : ((1 : Int32) = 1 ∧ nmO byt tpd S E w = nmB byt tpd S E w (8 - (k + 1)) (k + 1)) ∨ ((1 : Int32) = 0 ∧ nmO byt tpd S E w = 0) := Or.inl ⟨rfl, by rw [eP2, hm]; exact if_pos (by rw [hrh]; exact c_7)⟩
                refine lv_iconst (v := 1) hx hb dX11_isNameOf_74 (by decide) ?_
                refine lv_goto (tgt := 79) hx hb dX11_isNameOf_75 (by decide) ?_
                refine lv_istore_n (lv' := [(2, .int 1), (3, .int (nI k)), (0, .ref oh), (1, .int (nI w))]) hx hb dX11_isNameOf_79 rfl hl (by decide) rfl (fun ls hl => ?_)
                refine lv_iinc (v := nI (k + 1)) (lv' := [(3, .int (nI (k + 1))), (2, .int 1), (0, .ref oh), (1, .int (nI w))]) hx hb dX11_isNameOf_80 hl (k := 1) rfl (nI_1 _) (by decide) rfl (fun ls hl => ?_)
                refine lv_goto (tgt := 22) hx hb dX11_isNameOf_83 (by decide) ?_
                exact ih_22 (k + 1) 1 (by omega) (by omega) (eN) _ _ hw _ (lv_sub hl [0, 1, 2, 3] rfl)
    exact lp_22_1 (8 + 1) 0 0 (by omega) (by omega) (Or.inr ⟨rfl, if_pos c_1⟩) _ _ hw _ (lv_sub hl [0, 1, 2, 3] rfl)
  · refine lv_iconst (v := 1) hx hb dX11_isNameOf_14 (by decide) ?_
    refine lv_goto (tgt := 19) hx hb dX11_isNameOf_15 (by decide) ?_
    refine lv_istore_n (lv' := [(2, .int 1), (0, .ref oh), (1, .int (nI w))]) hx hb dX11_isNameOf_19 rfl hl (by decide) rfl (fun ls hl => ?_)
    refine lv_iconst (v := 0) hx hb dX11_isNameOf_20 (by decide) ?_
    refine lv_istore_n (lv' := [(3, .int 0), (2, .int 1), (0, .ref oh), (1, .int (nI w))]) hx hb dX11_isNameOf_21 rfl hl (by decide) rfl (fun ls hl => ?_)
    have lp_22_7 : ∀ (fu k : Nat) (is_ : Int32), k ≤ 8 → 8 + 1 ≤ k + fu → ((is_ = 1 ∧ nmO byt tpd S E w = nmB byt tpd S E w (8 - k) k) ∨ (is_ = 0 ∧ nmO byt tpd S E w = 0)) → ∀ (H : Heap) (locs : List Loc), hv g (va_I [cob oh 11 [.ref os, .ref ok, .ref ol, .ref ord, .int isk, .ref odd, .ref otp, .int (nI tpd), .ref olt, .int (nI E), .int (nI S), .int otk, .int ovl, .ref orw, .int (nI rmn), .ref oso, .ref osz, .ref oit, .ref oho, .ref ohe, .ref otr, .int (nI tcd), .int own_, .int opt], cin g otp 200 (ubT byt), cch g olt 120 mlet]) s H locs [cob oh 11 [.ref os, .ref ok, .ref ol, .ref ord, .int isk, .ref odd, .ref otp, .int (nI tpd), .ref olt, .int (nI E), .int (nI S), .int otk, .int ovl, .ref orw, .int (nI rmn), .ref oso, .ref osz, .ref oit, .ref oho, .ref ohe, .ref otr, .int (nI tcd), .int own_, .int opt], cin g otp 200 (ubT byt), cch g olt 120 mlet] → ∀ ls : Array Slot, lv_has ls 4 [(3, .int (nI k)), (2, .int is_), (0, .ref oh), (1, .int (nI w))] → W p l e rmX11_isNameOf s m ([.ref oh, .int (nI w)] : List Value).toArray below meth c H locs 0 0 (MQ below (mtQ g [cob oh 11 [.ref os, .ref ok, .ref ol, .ref ord, .int isk, .ref odd, .ref otp, .int (nI tpd), .ref olt, .int (nI E), .int (nI S), .int otk, .int ovl, .ref orw, .int (nI rmn), .ref oso, .ref osz, .ref oit, .ref oho, .ref ohe, .ref otr, .int (nI tcd), .int own_, .int opt], cin g otp 200 (ubT byt), cch g olt 120 mlet] (some (.int (nmO byt tpd S E w))) [cob oh 11 [.ref os, .ref ok, .ref ol, .ref ord, .int isk, .ref odd, .ref otp, .int (nI tpd), .ref olt, .int (nI E), .int (nI S), .int otk, .int ovl, .ref orw, .int (nI rmn), .ref oso, .ref osz, .ref oit, .ref oho, .ref ohe, .ref otr, .int (nI tcd), .int own_, .int opt], cin g otp 200 (ubT byt), cch g olt 120 mlet]) ([.ref oh, .int (nI w)] : List Value).toArray s 0 0 (va_I [cob oh 11 [.ref os, .ref ok, .ref ol, .ref ord, .int isk, .ref odd, .ref otp, .int (nI tpd), .ref olt, .int (nI E), .int (nI S), .int otk, .int ovl, .ref orw, .int (nI rmn), .ref oso, .ref osz, .ref oit, .ref oho, .ref ohe, .ref otr, .int (nI tcd), .int own_, .int opt], cin g otp 200 (ubT byt), cch g olt 120 mlet])) (F0 m 22 ls []) := by
      intro fu
      induction fu with
      | zero =>
        intro k is_ h1 h2
        exact absurd h2 (by omega)
      | succ fu ih_22 =>
        intro k is_ hk1_22 hk2_22 eP H locs hw ls hl
        refine lv_iload_n hx hb dX11_isNameOf_22 rfl (lv_at hl 0 rfl) ?_
        refine lv_bipush (v := 8) hx hb dX11_isNameOf_23 (by decide) ?_
        refine lv_icmp_ge (tgt := 86) hx hb dX11_isNameOf_25 (by decide) (fun c_9 => ?_) (fun c_9 => ?_)
        · have hkE : k = 8 := Nat.le_antisymm hk1_22 ((nI_leI (a := 8) (by omega) (by omega)).mp c_9)
          have hfin : is_ = nmO byt tpd S E w := by rcases eP with h | h; (rw [h.1, h.2, hkE]; rfl); rw [h.1, h.2]
          refine lv_iload_n hx hb dX11_isNameOf_86 rfl (lv_at hl 1 rfl) ?_
          exact re_z hf hr hlk hw (nar_z (by rcases eP with h | h; exact Or.inr h.1; exact Or.inl h.1)) (by rw [hfin]) (rfl) dX11_isNameOf_87
        · have hkE : k < 8 := Nat.not_le.mp (fun h => c_9 ((nI_leI (a := 8) (by omega) (by omega)).mpr h))
          have hm : 8 - k = (8 - (k + 1)) + 1 := by omega
          refine lv_iload_n hx hb dX11_isNameOf_28 rfl (lv_at hl 1 rfl) ?_
          refine lv_if_eq (tgt := 86) hx hb dX11_isNameOf_29 (by decide) (fun c_10 => ?_) (fun c_10 => ?_)
          · have hfin : is_ = nmO byt tpd S E w := by rcases eP with h | h; exact absurd (h.1.symm.trans c_10) (by decide); rw [h.1, h.2]
            refine lv_iload_n hx hb dX11_isNameOf_86 rfl (lv_at hl 1 rfl) ?_
            exact re_z hf hr hlk hw (nar_z (by rcases eP with h | h; exact Or.inr h.1; exact Or.inl h.1)) (by rw [hfin]) (rfl) dX11_isNameOf_87
          · have eP2 : nmO byt tpd S E w = nmB byt tpd S E w (8 - k) k := by rcases eP with h | h; exact h.2; exact absurd h.1 c_10
            refine lv_aload_n hx hb dX11_isNameOf_32 rfl (lv_at hl 2 rfl) ?_
            refine rg hf hk hw hinX11 0 rfl rfl 8 (by decide) w_2 rfl dX11_isNameOf_33 ?_
            refine lv_bipush (v := 8) hx hb dX11_isNameOf_36 (by decide) ?_
            refine lv_iload_n hx hb dX11_isNameOf_38 rfl (lv_at hl 3 rfl) ?_
            refine lv_imul hx hb dX11_isNameOf_39 ?_
            refine lv_tope (y := nI (8 * w)) (pk_mul 8 _) ?_
            refine lv_iload_n hx hb dX11_isNameOf_40 rfl (lv_at hl 0 rfl) ?_
            refine lv_iadd hx hb dX11_isNameOf_41 ?_
            refine lv_tope (y := nI (8 * w + k)) (nI_add _ _) ?_
            refine rcj hf hk hw 2 rfl (j := 8 * w + k) (vp_in_nI (by omega) (by omega)) (nI_clamp (by omega)) dX11_isNameOf_42 ?_
            refine lv_aload_n hx hb dX11_isNameOf_43 rfl (lv_at hl 2 rfl) ?_
            refine rg hf hk hw hinX11 0 rfl rfl 10 (by decide) w_1 rfl dX11_isNameOf_44 ?_
            refine lv_iload_n hx hb dX11_isNameOf_47 rfl (lv_at hl 0 rfl) ?_
            refine lv_iadd hx hb dX11_isNameOf_48 ?_
            refine lv_tope (y := nI (S + k)) (nI_add _ _) ?_
            refine lv_aload_n hx hb dX11_isNameOf_49 rfl (lv_at hl 2 rfl) ?_
            refine rg hf hk hw hinX11 0 rfl rfl 9 (by decide) w_0 rfl dX11_isNameOf_50 ?_
            refine lv_icmp_ge (tgt := 69) hx hb dX11_isNameOf_53 (by decide) (fun c_11 => ?_) (fun c_11 => ?_)
            · have hrh : (if nI E ≤ nI (S + k) then 32 else baF byt tpd (S + k)) = 32 := if_pos c_11
              refine lv_bipush (v := 32) hx hb dX11_isNameOf_69 (by decide) ?_
              refine lv_icmp_ne (tgt := 78) hx hb dX11_isNameOf_71 (by decide) (fun c_12 => ?_) (fun c_12 => ?_)
              · have eN : ((0 : Int32) = 1 ∧ nmO byt tpd S E w = nmB byt tpd S E w (8 - (k + 1)) (k + 1)) ∨ ((0 : Int32) = 0 ∧ nmO byt tpd S E w = 0) := Or.inr ⟨rfl, by rw [eP2, hm]; exact if_neg (by rw [hrh]; exact c_12)⟩
                refine lv_iconst (v := 0) hx hb dX11_isNameOf_78 (by decide) ?_
                refine lv_istore_n (lv' := [(2, .int 0), (3, .int (nI k)), (0, .ref oh), (1, .int (nI w))]) hx hb dX11_isNameOf_79 rfl hl (by decide) rfl (fun ls hl => ?_)
                refine lv_iinc (v := nI (k + 1)) (lv' := [(3, .int (nI (k + 1))), (2, .int 0), (0, .ref oh), (1, .int (nI w))]) hx hb dX11_isNameOf_80 hl (k := 1) rfl (nI_1 _) (by decide) rfl (fun ls hl => ?_)
                refine lv_goto (tgt := 22) hx hb dX11_isNameOf_83 (by decide) ?_
                exact ih_22 (k + 1) 0 (by omega) (by omega) (eN) _ _ hw _ (lv_sub hl [0, 1, 2, 3] rfl)
              · have eN : ((1 : Int32) = 1 ∧ nmO byt tpd S E w = nmB byt tpd S E w (8 - (k + 1)) (k + 1)) ∨ ((1 : Int32) = 0 ∧ nmO byt tpd S E w = 0) := Or.inl ⟨rfl, by rw [eP2, hm]; exact if_pos (by rw [hrh]; exact c_12)⟩
                refine lv_iconst (v := 1) hx hb dX11_isNameOf_74 (by decide) ?_
                refine lv_goto (tgt := 79) hx hb dX11_isNameOf_75 (by decide) ?_
                refine lv_istore_n (lv' := [(2, .int 1), (3, .int (nI k)), (0, .ref oh), (1, .int (nI w))]) hx hb dX11_isNameOf_79 rfl hl (by decide) rfl (fun ls hl => ?_)
                refine lv_iinc (v := nI (k + 1)) (lv' := [(3, .int (nI (k + 1))), (2, .int 1), (0, .ref oh), (1, .int (nI w))]) hx hb dX11_isNameOf_80 hl (k := 1) rfl (nI_1 _) (by decide) rfl (fun ls hl => ?_)
                refine lv_goto (tgt := 22) hx hb dX11_isNameOf_83 (by decide) ?_
                exact ih_22 (k + 1) 1 (by omega) (by omega) (eN) _ _ hw _ (lv_sub hl [0, 1, 2, 3] rfl)
            · have hrh : (if nI E ≤ nI (S + k) then 32 else baF byt tpd (S + k)) = baF byt tpd (S + k) := if_neg c_11
              have hlt : S + k < E := Nat.not_le.mp (fun h => c_11 ((nI_leI (by omega) (by omega)).mpr h))
              refine lv_aload_n hx hb dX11_isNameOf_56 rfl (lv_at hl 2 rfl) ?_
              refine lv_aload_n hx hb dX11_isNameOf_57 rfl (lv_at hl 2 rfl) ?_
              refine rg hf hk hw hinX11 0 rfl rfl 10 (by decide) w_1 rfl dX11_isNameOf_58 ?_
              refine lv_iload_n hx hb dX11_isNameOf_61 rfl (lv_at hl 0 rfl) ?_
              refine lv_iadd hx hb dX11_isNameOf_62 ?_
              refine lv_tope (y := nI (S + k)) (nI_add _ _) ?_
              refine mcV hf hk hst hw (c_X11_byteAt l g oh os ok ol ord odd otp olt orw oso osz oit oho ohe otr isk tpd (nI E) (nI S) otk ovl rmn tcd own_ opt byt (S + k) (by omega) (by omega)) (cwV 1 hts gX11_isNameOf_X11_byteAt rfl rfl rfl hdV_X11_byteAt ⟨Nat.le_of_ble_eq_true rfl, Nat.le_of_ble_eq_true rfl⟩) [0, 1] rfl rfl 0 rfl rfl rfl hl.1 rfl (Nat.le_of_ble_eq_true rfl) dX11_isNameOf_63 ⟨Nat.zero_le _, Nat.zero_le _⟩ (W' := [cob oh 11 [.ref os, .ref ok, .ref ol, .ref ord, .int isk, .ref odd, .ref otp, .int (nI tpd), .ref olt, .int (nI E), .int (nI S), .int otk, .int ovl, .ref orw, .int (nI rmn), .ref oso, .ref osz, .ref oit, .ref oho, .ref ohe, .ref otr, .int (nI tcd), .int own_, .int opt], cin g otp 200 (ubT byt), cch g olt 120 mlet]) rfl (fun H locs hw => ?_)
              refine lv_goto (tgt := 71) hx hb dX11_isNameOf_66 (by decide) ?_
              refine lv_icmp_ne (tgt := 78) hx hb dX11_isNameOf_71 (by decide) (fun c_13 => ?_) (fun c_13 => ?_)
              · have eN : ((0 : Int32) = 1 ∧ nmO byt tpd S E w = nmB byt tpd S E w (8 - (k + 1)) (k + 1)) ∨ ((0 : Int32) = 0 ∧ nmO byt tpd S E w = 0) := Or.inr ⟨rfl, by rw [eP2, hm]; exact if_neg (by rw [hrh]; exact c_13)⟩
                refine lv_iconst (v := 0) hx hb dX11_isNameOf_78 (by decide) ?_
                refine lv_istore_n (lv' := [(2, .int 0), (3, .int (nI k)), (0, .ref oh), (1, .int (nI w))]) hx hb dX11_isNameOf_79 rfl hl (by decide) rfl (fun ls hl => ?_)
                refine lv_iinc (v := nI (k + 1)) (lv' := [(3, .int (nI (k + 1))), (2, .int 0), (0, .ref oh), (1, .int (nI w))]) hx hb dX11_isNameOf_80 hl (k := 1) rfl (nI_1 _) (by decide) rfl (fun ls hl => ?_)
                refine lv_goto (tgt := 22) hx hb dX11_isNameOf_83 (by decide) ?_
                exact ih_22 (k + 1) 0 (by omega) (by omega) (eN) _ _ hw _ (lv_sub hl [0, 1, 2, 3] rfl)
              · have eN : ((1 : Int32) = 1 ∧ nmO byt tpd S E w = nmB byt tpd S E w (8 - (k + 1)) (k + 1)) ∨ ((1 : Int32) = 0 ∧ nmO byt tpd S E w = 0) := Or.inl ⟨rfl, by rw [eP2, hm]; exact if_pos (by rw [hrh]; exact c_13)⟩
                refine lv_iconst (v := 1) hx hb dX11_isNameOf_74 (by decide) ?_
                refine lv_goto (tgt := 79) hx hb dX11_isNameOf_75 (by decide) ?_
                refine lv_istore_n (lv' := [(2, .int 1), (3, .int (nI k)), (0, .ref oh), (1, .int (nI w))]) hx hb dX11_isNameOf_79 rfl hl (by decide) rfl (fun ls hl => ?_)
                refine lv_iinc (v := nI (k + 1)) (lv' := [(3, .int (nI (k + 1))), (2, .int 1), (0, .ref oh), (1, .int (nI w))]) hx hb dX11_isNameOf_80 hl (k := 1) rfl (nI_1 _) (by decide) rfl (fun ls hl => ?_)
                refine lv_goto (tgt := 22) hx hb dX11_isNameOf_83 (by decide) ?_
                exact ih_22 (k + 1) 1 (by omega) (by omega) (eN) _ _ hw _ (lv_sub hl [0, 1, 2, 3] rfl)
    exact lp_22_7 (8 + 1) 0 1 (by omega) (by omega) (Or.inl ⟨rfl, if_neg c_1⟩) _ _ hw _ (lv_sub hl [0, 1, 2, 3] rfl)
theorem hdV_X11_isNameOf : yX11_isNameOf.cls = RX11 ∧ yX11_isNameOf.cls ≠ "java/lang/invoke/MethodHandle" ∧ yX11_isNameOf.cls ≠ "java/lang/invoke/VarHandle" ∧ (parseMethodDescriptor yX11_isNameOf.desc).map (fun d => d.parameters.length) = some 1 := by decide +kernel
abbrev rmX11_readsName : Room := { frames := 2, cells := 0, slots := 0, locals := 44 }
set_option maxHeartbeats 4000000 in
set_option maxRecDepth 100000 in
theorem c_X11_readsName (l : Launch) (g : GG) (oh : Nat) (os : Nat) (ok : Nat) (ol : Nat) (ord : Nat) (odd : Nat) (otp : Nat) (olt : Nat) (orw : Nat) (oso : Nat) (osz : Nat) (oit : Nat) (oho : Nat) (ohe : Nat) (otr : Nat) (isk : Int32) (tpd : Nat) (otk : Int32) (ovl : Int32) (rmn : Nat) (tcd : Nat) (own_ : Int32) (opt : Int32) (byt : Nat → Int32) (S : Nat) (htz : tpd ≤ 200) (hby : ∀ j, isB (byt j)) (hS : S ≤ tpd) : mt l g yX11_readsName wsX11_readsName rmX11_readsName [.ref oh] [cob oh 11 [.ref os, .ref ok, .ref ol, .ref ord, .int isk, .ref odd, .ref otp, .int (nI tpd), .ref olt, .int (nI S), .int (nI S), .int otk, .int ovl, .ref orw, .int (nI rmn), .ref oso, .ref osz, .ref oit, .ref oho, .ref ohe, .ref otr, .int (nI tcd), .int own_, .int opt], cin g otp 200 (ubT byt), cch g olt 120 mlet] none [cob oh 11 [.ref os, .ref ok, .ref ol, .ref ord, .int isk, .ref odd, .ref otp, .int (nI tpd), .ref olt, .int (nI (enB byt tpd 1 (tpd - S + 1) S)), .int (nI S), .int (tnM byt tpd S (enB byt tpd 1 (tpd - S + 1) S) 15), .int ovl, .ref orw, .int (nI rmn), .ref oso, .ref osz, .ref oit, .ref oho, .ref ohe, .ref otr, .int (nI tcd), .int own_, .int opt], cin g otp 200 (ubT byt), cch g olt 120 mlet] := by
  refine mt.of (cc := cX11_readsName) (nL := 2) (ret := none) (own := RX11) (by decide +kernel) rfl rfl (show ([oh, otp, olt] : List Nat) = [oh, otp, olt] from rfl) (Nat.le_of_ble_eq_true rfl) (fun p e s m below meth c hf hr hlk _ hk hst hw ls hl => ?_)
  have hx := hf.1
  have hb := hf.2.1
  have hts := hf.2.2.2.2
  have hl : lv_has ls 2 [(0, .ref oh)] := hl
  have hEb := enB_b byt 1 htz (tpd - S + 1) S hS
  have hinX11 : ∀ w ∈ u_ws RX11 TX11 24, w ∈ wsX11_readsName := fun w h => List.mem_cons_of_mem _ (List.mem_append_right _ h)
  have w_0 : Cond.fieldLink RX11 110 "LightManModel" "at" "I" ∈ wsX11_readsName := List.mem_of_getElem? (i := 1) rfl
  have w_1 : Cond.fieldLink RX11 119 "LightManModel" "token" "I" ∈ wsX11_readsName := List.mem_of_getElem? (i := 2) rfl
  have lp_0_0 : ∀ (fu k : Nat), k ≤ (tpd - S) → (tpd - S) + 1 ≤ k + fu → ((enB byt tpd 1 (tpd - S + 1) S) = enB byt tpd 1 (tpd - S - k + 1) (S + k)) → ∀ (H : Heap) (locs : List Loc), hv g (va_I [cob oh 11 [.ref os, .ref ok, .ref ol, .ref ord, .int isk, .ref odd, .ref otp, .int (nI tpd), .ref olt, .int (nI S), .int (nI S), .int otk, .int ovl, .ref orw, .int (nI rmn), .ref oso, .ref osz, .ref oit, .ref oho, .ref ohe, .ref otr, .int (nI tcd), .int own_, .int opt], cin g otp 200 (ubT byt), cch g olt 120 mlet]) s H locs [cob oh 11 [.ref os, .ref ok, .ref ol, .ref ord, .int isk, .ref odd, .ref otp, .int (nI tpd), .ref olt, .int (nI (S + k)), .int (nI S), .int otk, .int ovl, .ref orw, .int (nI rmn), .ref oso, .ref osz, .ref oit, .ref oho, .ref ohe, .ref otr, .int (nI tcd), .int own_, .int opt], cin g otp 200 (ubT byt), cch g olt 120 mlet] → ∀ ls : Array Slot, lv_has ls 2 [(0, .ref oh)] → W p l e rmX11_readsName s m ([.ref oh] : List Value).toArray below meth c H locs 0 0 (MQ below (mtQ g [cob oh 11 [.ref os, .ref ok, .ref ol, .ref ord, .int isk, .ref odd, .ref otp, .int (nI tpd), .ref olt, .int (nI S), .int (nI S), .int otk, .int ovl, .ref orw, .int (nI rmn), .ref oso, .ref osz, .ref oit, .ref oho, .ref ohe, .ref otr, .int (nI tcd), .int own_, .int opt], cin g otp 200 (ubT byt), cch g olt 120 mlet] none [cob oh 11 [.ref os, .ref ok, .ref ol, .ref ord, .int isk, .ref odd, .ref otp, .int (nI tpd), .ref olt, .int (nI (enB byt tpd 1 (tpd - S + 1) S)), .int (nI S), .int (tnM byt tpd S (enB byt tpd 1 (tpd - S + 1) S) 15), .int ovl, .ref orw, .int (nI rmn), .ref oso, .ref osz, .ref oit, .ref oho, .ref ohe, .ref otr, .int (nI tcd), .int own_, .int opt], cin g otp 200 (ubT byt), cch g olt 120 mlet]) ([.ref oh] : List Value).toArray s 0 0 (va_I [cob oh 11 [.ref os, .ref ok, .ref ol, .ref ord, .int isk, .ref odd, .ref otp, .int (nI tpd), .ref olt, .int (nI S), .int (nI S), .int otk, .int ovl, .ref orw, .int (nI rmn), .ref oso, .ref osz, .ref oit, .ref oho, .ref ohe, .ref otr, .int (nI tcd), .int own_, .int opt], cin g otp 200 (ubT byt), cch g olt 120 mlet])) (F0 m 0 ls []) := by
    intro fu
    induction fu with
    | zero =>
      intro k h1 h2
      exact absurd h2 (by omega)
    | succ fu ih_0 =>
      intro k hk1_0 hk2_0 eS H locs hw ls hl
      refine lv_aload_n hx hb dX11_readsName_0 rfl (lv_at hl 0 rfl) ?_
      refine lv_aload_n hx hb dX11_readsName_1 rfl (lv_at hl 0 rfl) ?_
      refine rg hf hk hw hinX11 0 rfl rfl 9 (by decide) w_0 rfl dX11_readsName_2 ?_
      refine mcV hf hk hst hw (c_X11_byteAt l g oh os ok ol ord odd otp olt orw oso osz oit oho ohe otr isk tpd (nI (S + k)) (nI S) otk ovl rmn tcd own_ opt byt (S + k) (by omega) (by omega)) (cwV 1 hts gX11_readsName_X11_byteAt rfl rfl rfl hdV_X11_byteAt ⟨Nat.le_of_ble_eq_true rfl, Nat.le_of_ble_eq_true rfl⟩) [0, 1] rfl rfl 0 rfl rfl rfl hl.1 rfl (Nat.le_of_ble_eq_true rfl) dX11_readsName_5 ⟨Nat.zero_le _, Nat.zero_le _⟩ (W' := [cob oh 11 [.ref os, .ref ok, .ref ol, .ref ord, .int isk, .ref odd, .ref otp, .int (nI tpd), .ref olt, .int (nI (S + k)), .int (nI S), .int otk, .int ovl, .ref orw, .int (nI rmn), .ref oso, .ref osz, .ref oit, .ref oho, .ref ohe, .ref otr, .int (nI tcd), .int own_, .int opt], cin g otp 200 (ubT byt), cch g olt 120 mlet]) rfl (fun H locs hw => ?_)
      refine lv_bipush (v := 97) hx hb dX11_readsName_8 (by decide) ?_
      refine lv_bipush (v := 122) hx hb dX11_readsName_10 (by decide) ?_
      refine mcS hf hk hst hw (c_X11_in1 l g (baF byt tpd (S + k)) 97 122) (va_cwS 3 hts gX11_readsName_X11_in1 rfl rfl rfl hdS_X11_in1 ⟨Nat.le_of_ble_eq_true rfl, Nat.le_of_ble_eq_true rfl⟩) [] rfl rfl rfl hl.1 rfl (Nat.le_of_ble_eq_true rfl) dX11_readsName_12 ⟨Nat.zero_le _, Nat.zero_le _⟩ (W' := [cob oh 11 [.ref os, .ref ok, .ref ol, .ref ord, .int isk, .ref odd, .ref otp, .int (nI tpd), .ref olt, .int (nI (S + k)), .int (nI S), .int otk, .int ovl, .ref orw, .int (nI rmn), .ref oso, .ref osz, .ref oit, .ref oho, .ref ohe, .ref otr, .int (nI tcd), .int own_, .int opt], cin g otp 200 (ubT byt), cch g olt 120 mlet]) rfl (fun H locs hw => ?_)
      refine lv_if_eq (tgt := 31) hx hb dX11_readsName_15 (by decide) (fun c_2 => ?_) (fun c_2 => ?_)
      · have hfu : tpd - S - k + 1 = (tpd - S - k) + 1 := rfl
        have eE : S + k = (enB byt tpd 1 (tpd - S + 1) S) := by rw [eS, hfu]; exact (en_1 (hby _) c_2).symm
        rw [eE] at hw
        refine lv_aload_n hx hb dX11_readsName_31 rfl (lv_at hl 0 rfl) ?_
        refine lv_bipush (v := 101) hx hb dX11_readsName_32 (by decide) ?_
        refine rp hf hk hw hinX11 tyX11 tyX11_ok nmX11 0 rfl rfl 11 (by decide) w_1 rfl (rfl) rfl (Nat.le_of_ble_eq_true rfl) dX11_readsName_34 (W' := [cob oh 11 [.ref os, .ref ok, .ref ol, .ref ord, .int isk, .ref odd, .ref otp, .int (nI tpd), .ref olt, .int (nI (enB byt tpd 1 (tpd - S + 1) S)), .int (nI S), .int 101, .int ovl, .ref orw, .int (nI rmn), .ref oso, .ref osz, .ref oit, .ref oho, .ref ohe, .ref otr, .int (nI tcd), .int own_, .int opt], cin g otp 200 (ubT byt), cch g olt 120 mlet]) rfl (fun H locs hw => ?_)
        refine lv_iconst (v := 0) hx hb dX11_readsName_37 (by decide) ?_
        refine lv_istore_n (lv' := [(1, .int 0), (0, .ref oh)]) hx hb dX11_readsName_38 rfl hl (by decide) rfl (fun ls hl => ?_)
        have lp_39_2 : ∀ (fu w : Nat), w ≤ 15 → 15 + 1 ≤ w + fu → ∀ (H : Heap) (locs : List Loc), hv g (va_I [cob oh 11 [.ref os, .ref ok, .ref ol, .ref ord, .int isk, .ref odd, .ref otp, .int (nI tpd), .ref olt, .int (nI S), .int (nI S), .int otk, .int ovl, .ref orw, .int (nI rmn), .ref oso, .ref osz, .ref oit, .ref oho, .ref ohe, .ref otr, .int (nI tcd), .int own_, .int opt], cin g otp 200 (ubT byt), cch g olt 120 mlet]) s H locs [cob oh 11 [.ref os, .ref ok, .ref ol, .ref ord, .int isk, .ref odd, .ref otp, .int (nI tpd), .ref olt, .int (nI (enB byt tpd 1 (tpd - S + 1) S)), .int (nI S), .int (tnM byt tpd S (enB byt tpd 1 (tpd - S + 1) S) w), .int ovl, .ref orw, .int (nI rmn), .ref oso, .ref osz, .ref oit, .ref oho, .ref ohe, .ref otr, .int (nI tcd), .int own_, .int opt], cin g otp 200 (ubT byt), cch g olt 120 mlet] → ∀ ls : Array Slot, lv_has ls 2 [(1, .int (nI w)), (0, .ref oh)] → W p l e rmX11_readsName s m ([.ref oh] : List Value).toArray below meth c H locs 0 0 (MQ below (mtQ g [cob oh 11 [.ref os, .ref ok, .ref ol, .ref ord, .int isk, .ref odd, .ref otp, .int (nI tpd), .ref olt, .int (nI S), .int (nI S), .int otk, .int ovl, .ref orw, .int (nI rmn), .ref oso, .ref osz, .ref oit, .ref oho, .ref ohe, .ref otr, .int (nI tcd), .int own_, .int opt], cin g otp 200 (ubT byt), cch g olt 120 mlet] none [cob oh 11 [.ref os, .ref ok, .ref ol, .ref ord, .int isk, .ref odd, .ref otp, .int (nI tpd), .ref olt, .int (nI (enB byt tpd 1 (tpd - S + 1) S)), .int (nI S), .int (tnM byt tpd S (enB byt tpd 1 (tpd - S + 1) S) 15), .int ovl, .ref orw, .int (nI rmn), .ref oso, .ref osz, .ref oit, .ref oho, .ref ohe, .ref otr, .int (nI tcd), .int own_, .int opt], cin g otp 200 (ubT byt), cch g olt 120 mlet]) ([.ref oh] : List Value).toArray s 0 0 (va_I [cob oh 11 [.ref os, .ref ok, .ref ol, .ref ord, .int isk, .ref odd, .ref otp, .int (nI tpd), .ref olt, .int (nI S), .int (nI S), .int otk, .int ovl, .ref orw, .int (nI rmn), .ref oso, .ref osz, .ref oit, .ref oho, .ref ohe, .ref otr, .int (nI tcd), .int own_, .int opt], cin g otp 200 (ubT byt), cch g olt 120 mlet])) (F0 m 39 ls []) := by
          intro fu
          induction fu with
          | zero =>
            intro w h1 h2
            exact absurd h2 (by omega)
          | succ fu ih_39 =>
            intro w hk1_39 hk2_39 H locs hw ls hl
            refine lv_iload_n hx hb dX11_readsName_39 rfl (lv_at hl 0 rfl) ?_
            refine lv_bipush (v := 15) hx hb dX11_readsName_40 (by decide) ?_
            refine lv_icmp_ge (tgt := 71) hx hb dX11_readsName_42 (by decide) (fun c_4 => ?_) (fun c_4 => ?_)
            · have hwE : w = 15 := Nat.le_antisymm hk1_39 ((nI_leI (a := 15) (by omega) (by omega)).mp c_4)
              exact re_v hf hr hlk hw (by rw [hwE]) dX11_readsName_71
            · have hwE : w < 15 := Nat.not_le.mp (fun h => c_4 ((nI_leI (a := 15) (by omega) (by omega)).mpr h))
              refine lv_aload_n hx hb dX11_readsName_45 rfl (lv_at hl 1 rfl) ?_
              refine lv_aload_n hx hb dX11_readsName_46 rfl (lv_at hl 1 rfl) ?_
              refine lv_iload_n hx hb dX11_readsName_47 rfl (lv_at hl 0 rfl) ?_
              refine mcV hf hk hst hw (c_X11_isNameOf l g oh os ok ol ord odd otp olt orw oso osz oit oho ohe otr isk tpd (tnM byt tpd S (enB byt tpd 1 (tpd - S + 1) S) w) ovl rmn tcd own_ opt byt S (enB byt tpd 1 (tpd - S + 1) S) w (by omega) (by assumption) (by omega) (by omega) (by omega)) (cwV 1 hts gX11_readsName_X11_isNameOf rfl rfl rfl hdV_X11_isNameOf ⟨Nat.le_of_ble_eq_true rfl, Nat.le_of_ble_eq_true rfl⟩) [0, 1, 2] rfl rfl 0 rfl rfl rfl hl.1 rfl (Nat.le_of_ble_eq_true rfl) dX11_readsName_48 ⟨Nat.zero_le _, Nat.zero_le _⟩ (W' := [cob oh 11 [.ref os, .ref ok, .ref ol, .ref ord, .int isk, .ref odd, .ref otp, .int (nI tpd), .ref olt, .int (nI (enB byt tpd 1 (tpd - S + 1) S)), .int (nI S), .int (tnM byt tpd S (enB byt tpd 1 (tpd - S + 1) S) w), .int ovl, .ref orw, .int (nI rmn), .ref oso, .ref osz, .ref oit, .ref oho, .ref ohe, .ref otr, .int (nI tcd), .int own_, .int opt], cin g otp 200 (ubT byt), cch g olt 120 mlet]) rfl (fun H locs hw => ?_)
              refine lv_if_eq (tgt := 58) hx hb dX11_readsName_51 (by decide) (fun c_5 => ?_) (fun c_5 => ?_)
              · refine lv_aload_n hx hb dX11_readsName_58 rfl (lv_at hl 1 rfl) ?_
                refine rg hf hk hw hinX11 0 rfl rfl 11 (by decide) w_1 rfl dX11_readsName_59 ?_
                refine rp hf hk hw hinX11 tyX11 tyX11_ok nmX11 0 rfl rfl 11 (by decide) w_1 rfl (rfl) rfl (Nat.le_of_ble_eq_true rfl) dX11_readsName_62 (W' := [cob oh 11 [.ref os, .ref ok, .ref ol, .ref ord, .int isk, .ref odd, .ref otp, .int (nI tpd), .ref olt, .int (nI (enB byt tpd 1 (tpd - S + 1) S)), .int (nI S), .int (tnM byt tpd S (enB byt tpd 1 (tpd - S + 1) S) w), .int ovl, .ref orw, .int (nI rmn), .ref oso, .ref osz, .ref oit, .ref oho, .ref ohe, .ref otr, .int (nI tcd), .int own_, .int opt], cin g otp 200 (ubT byt), cch g olt 120 mlet]) rfl (fun H locs hw => ?_)
                refine lv_iinc (v := nI (w + 1)) (lv' := [(1, .int (nI (w + 1))), (0, .ref oh)]) hx hb dX11_readsName_65 hl (k := 0) rfl (nI_1 _) (by decide) rfl (fun ls hl => ?_)
                refine lv_goto (tgt := 39) hx hb dX11_readsName_68 (by decide) ?_
                have e_1 : (tnM byt tpd S (enB byt tpd 1 (tpd - S + 1) S) w) = tnM byt tpd S (enB byt tpd 1 (tpd - S + 1) S) (w + 1) := (if_pos c_5).symm
                rw [e_1] at hw
                exact ih_39 (w + 1) (by omega) (by omega) _ _ hw _ (lv_sub hl [0, 1] rfl)
              · refine lv_iload_n hx hb dX11_readsName_54 rfl (lv_at hl 0 rfl) ?_
                refine lv_goto (tgt := 62) hx hb dX11_readsName_55 (by decide) ?_
                refine rp hf hk hw hinX11 tyX11 tyX11_ok nmX11 0 rfl rfl 11 (by decide) w_1 rfl (rfl) rfl (Nat.le_of_ble_eq_true rfl) dX11_readsName_62 (W' := [cob oh 11 [.ref os, .ref ok, .ref ol, .ref ord, .int isk, .ref odd, .ref otp, .int (nI tpd), .ref olt, .int (nI (enB byt tpd 1 (tpd - S + 1) S)), .int (nI S), .int (nI w), .int ovl, .ref orw, .int (nI rmn), .ref oso, .ref osz, .ref oit, .ref oho, .ref ohe, .ref otr, .int (nI tcd), .int own_, .int opt], cin g otp 200 (ubT byt), cch g olt 120 mlet]) rfl (fun H locs hw => ?_)
                refine lv_iinc (v := nI (w + 1)) (lv' := [(1, .int (nI (w + 1))), (0, .ref oh)]) hx hb dX11_readsName_65 hl (k := 0) rfl (nI_1 _) (by decide) rfl (fun ls hl => ?_)
                refine lv_goto (tgt := 39) hx hb dX11_readsName_68 (by decide) ?_
                have e_1 : nI w = tnM byt tpd S (enB byt tpd 1 (tpd - S + 1) S) (w + 1) := (if_neg c_5).symm
                rw [e_1] at hw
                exact ih_39 (w + 1) (by omega) (by omega) _ _ hw _ (lv_sub hl [0, 1] rfl)
        exact lp_39_2 (15 + 1) 0 (by omega) (by omega) _ _ hw _ (lv_sub hl [0, 1] rfl)
      · have hgo := en_1n (m := tpd - S - (k + 1) + 1) (hby (S + k)) c_2
        have hlt : S + k < tpd := Nat.not_le.mp (fun h => hgo.2.1 (nI_le h (by omega)))
        have hm : tpd - S - k + 1 = (tpd - S - (k + 1) + 1) + 1 := by omega
        refine lv_aload_n hx hb dX11_readsName_18 rfl (lv_at hl 0 rfl) ?_
        refine lv_dup hx hb dX11_readsName_19 rfl ?_
        refine rg hf hk hw hinX11 0 rfl rfl 9 (by decide) w_0 rfl dX11_readsName_20 ?_
        refine lv_iconst (v := 1) hx hb dX11_readsName_23 (by decide) ?_
        refine lv_iadd hx hb dX11_readsName_24 ?_
        refine lv_tope (y := nI (S + (k + 1))) (nI_1 _) ?_
        refine rp hf hk hw hinX11 tyX11 tyX11_ok nmX11 0 rfl rfl 9 (by decide) w_0 rfl (rfl) rfl (Nat.le_of_ble_eq_true rfl) dX11_readsName_25 (W' := [cob oh 11 [.ref os, .ref ok, .ref ol, .ref ord, .int isk, .ref odd, .ref otp, .int (nI tpd), .ref olt, .int (nI (S + (k + 1))), .int (nI S), .int otk, .int ovl, .ref orw, .int (nI rmn), .ref oso, .ref osz, .ref oit, .ref oho, .ref ohe, .ref otr, .int (nI tcd), .int own_, .int opt], cin g otp 200 (ubT byt), cch g olt 120 mlet]) rfl (fun H locs hw => ?_)
        refine lv_goto (tgt := 0) hx hb dX11_readsName_28 (by decide) ?_
        exact ih_0 (k + 1) (by omega) (by omega) (by rw [eS, hm]; exact hgo.1) _ _ hw _ (lv_sub hl [0] rfl)
  exact lp_0_0 ((tpd - S) + 1) 0 (by omega) (by omega) (rfl) _ _ hw _ (lv_sub hl [0] rfl)
abbrev rmX11_readsNumber : Room := { frames := 1, cells := 0, slots := 0, locals := 22 }
set_option maxHeartbeats 4000000 in
set_option maxRecDepth 100000 in
theorem c_X11_readsNumber (l : Launch) (g : GG) (oh : Nat) (os : Nat) (ok : Nat) (ol : Nat) (ord : Nat) (odd : Nat) (otp : Nat) (olt : Nat) (orw : Nat) (oso : Nat) (osz : Nat) (oit : Nat) (oho : Nat) (ohe : Nat) (otr : Nat) (stp : Nat) (laws : Nat → Int32) (z : Int32) (cnt : Nat) (fogs : Nat → Int32) (arms : Nat → Int32) (kinds : Nat → Int32) (faiths : Nat → Int32) (places : Nat → Int32) (moved : Nat → Int32) (isk : Int32) (tpd : Nat) (otk : Int32) (ovl : Int32) (rmn : Nat) (tcd : Nat) (own_ : Int32) (opt : Int32) (rr : Nat → Int32) (byt : Nat → Int32) (S : Nat) (htz : tpd ≤ 200) (hby : ∀ j, isB (byt j)) (hS : S ≤ tpd) : mtR l g yX11_readsNumber wsX11_readsNumber rmX11_readsNumber [.ref oh] [cob oh 11 [.ref os, .ref ok, .ref ol, .ref ord, .int isk, .ref odd, .ref otp, .int (nI tpd), .ref olt, .int (nI S), .int (nI S), .int otk, .int ovl, .ref orw, .int (nI rmn), .ref oso, .ref osz, .ref oit, .ref oho, .ref ohe, .ref otr, .int (nI tcd), .int own_, .int opt], cin g os 51 (mR stp laws z cnt fogs arms kinds faiths places moved), cin g ord 51 rr, cin g otp 200 (ubT byt), cch g olt 120 mlet] (fun rv W => rv = none ∧ ∃ (j0 : Int32), (nI ((enB byt tpd 2 (tpd - S + 1) S) - S) ≤ 3 → j0 = vnR byt S ((enB byt tpd 2 (tpd - S + 1) S) - S)) ∧ W = [cob oh 11 [.ref os, .ref ok, .ref ol, .ref ord, .int isk, .ref odd, .ref otp, .int (nI tpd), .ref olt, .int (nI (enB byt tpd 2 (tpd - S + 1) S)), .int (nI S), .int (if nI ((enB byt tpd 2 (tpd - S + 1) S) - S) ≤ 3 then 100 else 101), .int j0, .ref orw, .int (nI rmn), .ref oso, .ref osz, .ref oit, .ref oho, .ref ohe, .ref otr, .int (nI tcd), .int own_, .int opt], cin g os 51 (mR stp laws z cnt fogs arms kinds faiths places moved), cin g ord 51 rr, cin g otp 200 (ubT byt), cch g olt 120 mlet]) := by
  refine mtR.of (cc := cX11_readsNumber) (nL := 1) (ret := none) (own := RX11) (by decide +kernel) rfl rfl (Nat.le_of_ble_eq_true rfl) (fun p e s m below meth c hf hr hlk _ hk hst hw ls hl => ?_)
  have hx := hf.1
  have hb := hf.2.1
  have hts := hf.2.2.2.2
  have hl : lv_has ls 1 [(0, .ref oh)] := hl
  have hEb := enB_b byt 2 htz (tpd - S + 1) S hS
  have hinX11 : ∀ w ∈ u_ws RX11 TX11 24, w ∈ wsX11_readsNumber := fun w h => List.mem_cons_of_mem _ (List.mem_append_right _ h)
  have w_0 : Cond.fieldLink RX11 125 "LightManModel" "value" "I" ∈ wsX11_readsNumber := List.mem_of_getElem? (i := 1) rfl
  have w_1 : Cond.fieldLink RX11 110 "LightManModel" "at" "I" ∈ wsX11_readsNumber := List.mem_of_getElem? (i := 2) rfl
  have w_2 : Cond.fieldLink RX11 113 "LightManModel" "begun" "I" ∈ wsX11_readsNumber := List.mem_of_getElem? (i := 3) rfl
  have w_3 : Cond.fieldLink RX11 119 "LightManModel" "token" "I" ∈ wsX11_readsNumber := List.mem_of_getElem? (i := 4) rfl
  refine lv_aload_n hx hb dX11_readsNumber_0 rfl (lv_at hl 0 rfl) ?_
  refine lv_iconst (v := 0) hx hb dX11_readsNumber_1 (by decide) ?_
  refine rp hf hk hw hinX11 tyX11 tyX11_ok nmX11 0 rfl rfl 12 (by decide) w_0 rfl (rfl) rfl (Nat.le_of_ble_eq_true rfl) dX11_readsNumber_2 (W' := [cob oh 11 [.ref os, .ref ok, .ref ol, .ref ord, .int isk, .ref odd, .ref otp, .int (nI tpd), .ref olt, .int (nI S), .int (nI S), .int otk, .int 0, .ref orw, .int (nI rmn), .ref oso, .ref osz, .ref oit, .ref oho, .ref ohe, .ref otr, .int (nI tcd), .int own_, .int opt], cin g os 51 (mR stp laws z cnt fogs arms kinds faiths places moved), cin g ord 51 rr, cin g otp 200 (ubT byt), cch g olt 120 mlet]) rfl (fun H locs hw => ?_)
  have lp_5_0 : ∀ (fu k : Nat) (vv : Int32), k ≤ (tpd - S) → (tpd - S) + 1 ≤ k + fu → ((enB byt tpd 2 (tpd - S + 1) S) = enB byt tpd 2 (tpd - S - k + 1) (S + k)) → (k ≤ 3 → vv = vnR byt S k) → ∀ (H : Heap) (locs : List Loc), hv g (va_I [cob oh 11 [.ref os, .ref ok, .ref ol, .ref ord, .int isk, .ref odd, .ref otp, .int (nI tpd), .ref olt, .int (nI S), .int (nI S), .int otk, .int ovl, .ref orw, .int (nI rmn), .ref oso, .ref osz, .ref oit, .ref oho, .ref ohe, .ref otr, .int (nI tcd), .int own_, .int opt], cin g os 51 (mR stp laws z cnt fogs arms kinds faiths places moved), cin g ord 51 rr, cin g otp 200 (ubT byt), cch g olt 120 mlet]) s H locs [cob oh 11 [.ref os, .ref ok, .ref ol, .ref ord, .int isk, .ref odd, .ref otp, .int (nI tpd), .ref olt, .int (nI (S + k)), .int (nI S), .int otk, .int vv, .ref orw, .int (nI rmn), .ref oso, .ref osz, .ref oit, .ref oho, .ref ohe, .ref otr, .int (nI tcd), .int own_, .int opt], cin g os 51 (mR stp laws z cnt fogs arms kinds faiths places moved), cin g ord 51 rr, cin g otp 200 (ubT byt), cch g olt 120 mlet] → ∀ ls : Array Slot, lv_has ls 1 [(0, .ref oh)] → W p l e rmX11_readsNumber s m ([.ref oh] : List Value).toArray below meth c H locs 0 0 (MQ below (mtS g [cob oh 11 [.ref os, .ref ok, .ref ol, .ref ord, .int isk, .ref odd, .ref otp, .int (nI tpd), .ref olt, .int (nI S), .int (nI S), .int otk, .int ovl, .ref orw, .int (nI rmn), .ref oso, .ref osz, .ref oit, .ref oho, .ref ohe, .ref otr, .int (nI tcd), .int own_, .int opt], cin g os 51 (mR stp laws z cnt fogs arms kinds faiths places moved), cin g ord 51 rr, cin g otp 200 (ubT byt), cch g olt 120 mlet] (fun rv W => rv = none ∧ ∃ (j0 : Int32), (nI ((enB byt tpd 2 (tpd - S + 1) S) - S) ≤ 3 → j0 = vnR byt S ((enB byt tpd 2 (tpd - S + 1) S) - S)) ∧ W = [cob oh 11 [.ref os, .ref ok, .ref ol, .ref ord, .int isk, .ref odd, .ref otp, .int (nI tpd), .ref olt, .int (nI (enB byt tpd 2 (tpd - S + 1) S)), .int (nI S), .int (if nI ((enB byt tpd 2 (tpd - S + 1) S) - S) ≤ 3 then 100 else 101), .int j0, .ref orw, .int (nI rmn), .ref oso, .ref osz, .ref oit, .ref oho, .ref ohe, .ref otr, .int (nI tcd), .int own_, .int opt], cin g os 51 (mR stp laws z cnt fogs arms kinds faiths places moved), cin g ord 51 rr, cin g otp 200 (ubT byt), cch g olt 120 mlet])) ([.ref oh] : List Value).toArray s 0 0 (va_I [cob oh 11 [.ref os, .ref ok, .ref ol, .ref ord, .int isk, .ref odd, .ref otp, .int (nI tpd), .ref olt, .int (nI S), .int (nI S), .int otk, .int ovl, .ref orw, .int (nI rmn), .ref oso, .ref osz, .ref oit, .ref oho, .ref ohe, .ref otr, .int (nI tcd), .int own_, .int opt], cin g os 51 (mR stp laws z cnt fogs arms kinds faiths places moved), cin g ord 51 rr, cin g otp 200 (ubT byt), cch g olt 120 mlet])) (F0 m 5 ls []) := by
    intro fu
    induction fu with
    | zero =>
      intro k vv h1 h2
      exact absurd h2 (by omega)
    | succ fu ih_5 =>
      intro k vv hk1_5 hk2_5 eS eV H locs hw ls hl
      refine lv_aload_n hx hb dX11_readsNumber_5 rfl (lv_at hl 0 rfl) ?_
      refine lv_aload_n hx hb dX11_readsNumber_6 rfl (lv_at hl 0 rfl) ?_
      refine rg hf hk hw hinX11 0 rfl rfl 9 (by decide) w_1 rfl dX11_readsNumber_7 ?_
      refine mcV hf hk hst hw (c_X11_byteAt l g oh os ok ol ord odd otp olt orw oso osz oit oho ohe otr isk tpd (nI (S + k)) (nI S) otk vv rmn tcd own_ opt byt (S + k) (by omega) (by omega)) (cwV 1 hts gX11_readsNumber_X11_byteAt rfl rfl rfl hdV_X11_byteAt ⟨Nat.le_of_ble_eq_true rfl, Nat.le_of_ble_eq_true rfl⟩) [0, 3] rfl rfl 0 rfl rfl rfl hl.1 rfl (Nat.le_of_ble_eq_true rfl) dX11_readsNumber_10 ⟨Nat.zero_le _, Nat.zero_le _⟩ (W' := [cob oh 11 [.ref os, .ref ok, .ref ol, .ref ord, .int isk, .ref odd, .ref otp, .int (nI tpd), .ref olt, .int (nI (S + k)), .int (nI S), .int otk, .int vv, .ref orw, .int (nI rmn), .ref oso, .ref osz, .ref oit, .ref oho, .ref ohe, .ref otr, .int (nI tcd), .int own_, .int opt], cin g os 51 (mR stp laws z cnt fogs arms kinds faiths places moved), cin g ord 51 rr, cin g otp 200 (ubT byt), cch g olt 120 mlet]) rfl (fun H locs hw => ?_)
      refine lv_bipush (v := 48) hx hb dX11_readsNumber_13 (by decide) ?_
      refine lv_bipush (v := 57) hx hb dX11_readsNumber_15 (by decide) ?_
      refine mcS hf hk hst hw (c_X11_in1 l g (baF byt tpd (S + k)) 48 57) (va_cwS 3 hts gX11_readsNumber_X11_in1 rfl rfl rfl hdS_X11_in1 ⟨Nat.le_of_ble_eq_true rfl, Nat.le_of_ble_eq_true rfl⟩) [] rfl rfl rfl hl.1 rfl (Nat.le_of_ble_eq_true rfl) dX11_readsNumber_17 ⟨Nat.zero_le _, Nat.zero_le _⟩ (W' := [cob oh 11 [.ref os, .ref ok, .ref ol, .ref ord, .int isk, .ref odd, .ref otp, .int (nI tpd), .ref olt, .int (nI (S + k)), .int (nI S), .int otk, .int vv, .ref orw, .int (nI rmn), .ref oso, .ref osz, .ref oit, .ref oho, .ref ohe, .ref otr, .int (nI tcd), .int own_, .int opt], cin g os 51 (mR stp laws z cnt fogs arms kinds faiths places moved), cin g ord 51 rr, cin g otp 200 (ubT byt), cch g olt 120 mlet]) rfl (fun H locs hw => ?_)
      refine lv_if_eq (tgt := 79) hx hb dX11_readsNumber_20 (by decide) (fun c_2 => ?_) (fun c_2 => ?_)
      · have hfu : tpd - S - k + 1 = (tpd - S - k) + 1 := rfl
        have eE : S + k = (enB byt tpd 2 (tpd - S + 1) S) := by rw [eS, hfu]; exact (en_2 (hby _) c_2).symm
        rw [eE] at hw
        have hkS : (enB byt tpd 2 (tpd - S + 1) S) - S = k := by omega
        refine lv_aload_n hx hb dX11_readsNumber_79 rfl (lv_at hl 0 rfl) ?_
        refine lv_aload_n hx hb dX11_readsNumber_80 rfl (lv_at hl 0 rfl) ?_
        refine rg hf hk hw hinX11 0 rfl rfl 9 (by decide) w_1 rfl dX11_readsNumber_81 ?_
        refine lv_aload_n hx hb dX11_readsNumber_84 rfl (lv_at hl 0 rfl) ?_
        refine rg hf hk hw hinX11 0 rfl rfl 10 (by decide) w_2 rfl dX11_readsNumber_85 ?_
        refine lv_isub hx hb dX11_readsNumber_88 ?_
        refine lv_tope (y := nI ((enB byt tpd 2 (tpd - S + 1) S) - S)) (nI_sb hEb.1) ?_
        refine lv_iconst (v := 3) hx hb dX11_readsNumber_89 (by decide) ?_
        refine lv_icmp_le (tgt := 98) hx hb dX11_readsNumber_90 (by decide) (fun c_3 => ?_) (fun c_3 => ?_)
        · refine lv_bipush (v := 100) hx hb dX11_readsNumber_98 (by decide) ?_
          refine rp hf hk hw hinX11 tyX11 tyX11_ok nmX11 0 rfl rfl 11 (by decide) w_3 rfl (rfl) rfl (Nat.le_of_ble_eq_true rfl) dX11_readsNumber_100 (W' := [cob oh 11 [.ref os, .ref ok, .ref ol, .ref ord, .int isk, .ref odd, .ref otp, .int (nI tpd), .ref olt, .int (nI (enB byt tpd 2 (tpd - S + 1) S)), .int (nI S), .int 100, .int vv, .ref orw, .int (nI rmn), .ref oso, .ref osz, .ref oit, .ref oho, .ref ohe, .ref otr, .int (nI tcd), .int own_, .int opt], cin g os 51 (mR stp laws z cnt fogs arms kinds faiths places moved), cin g ord 51 rr, cin g otp 200 (ubT byt), cch g olt 120 mlet]) rfl (fun H locs hw => ?_)
          exact rE_v hf hr hlk hw ⟨rfl, vv, fun h3 => by rw [hkS] at h3 ⊢; exact eV ((nI_leI (b := 3) (by omega) (by omega)).mp h3), by rw [if_pos c_3]⟩ (show ([oh, os, ord, otp, olt] : List Nat) = [oh, os, ord, otp, olt] from rfl) dX11_readsNumber_103
        · refine lv_bipush (v := 101) hx hb dX11_readsNumber_93 (by decide) ?_
          refine lv_goto (tgt := 100) hx hb dX11_readsNumber_95 (by decide) ?_
          refine rp hf hk hw hinX11 tyX11 tyX11_ok nmX11 0 rfl rfl 11 (by decide) w_3 rfl (rfl) rfl (Nat.le_of_ble_eq_true rfl) dX11_readsNumber_100 (W' := [cob oh 11 [.ref os, .ref ok, .ref ol, .ref ord, .int isk, .ref odd, .ref otp, .int (nI tpd), .ref olt, .int (nI (enB byt tpd 2 (tpd - S + 1) S)), .int (nI S), .int 101, .int vv, .ref orw, .int (nI rmn), .ref oso, .ref osz, .ref oit, .ref oho, .ref ohe, .ref otr, .int (nI tcd), .int own_, .int opt], cin g os 51 (mR stp laws z cnt fogs arms kinds faiths places moved), cin g ord 51 rr, cin g otp 200 (ubT byt), cch g olt 120 mlet]) rfl (fun H locs hw => ?_)
          exact rE_v hf hr hlk hw ⟨rfl, vv, fun h3 => by rw [hkS] at h3 ⊢; exact eV ((nI_leI (b := 3) (by omega) (by omega)).mp h3), by rw [if_neg c_3]⟩ (show ([oh, os, ord, otp, olt] : List Nat) = [oh, os, ord, otp, olt] from rfl) dX11_readsNumber_103
      · have hgo := en_2n (m := tpd - S - (k + 1) + 1) (hby (S + k)) c_2
        have hlt : S + k < tpd := Nat.not_le.mp (fun h => hgo.2.1 (nI_le h (by omega)))
        have hm : tpd - S - k + 1 = (tpd - S - (k + 1) + 1) + 1 := by omega
        refine lv_aload_n hx hb dX11_readsNumber_23 rfl (lv_at hl 0 rfl) ?_
        refine lv_aload_n hx hb dX11_readsNumber_24 rfl (lv_at hl 0 rfl) ?_
        refine rg hf hk hw hinX11 0 rfl rfl 9 (by decide) w_1 rfl dX11_readsNumber_25 ?_
        refine lv_aload_n hx hb dX11_readsNumber_28 rfl (lv_at hl 0 rfl) ?_
        refine rg hf hk hw hinX11 0 rfl rfl 10 (by decide) w_2 rfl dX11_readsNumber_29 ?_
        refine lv_isub hx hb dX11_readsNumber_32 ?_
        refine lv_tope (y := nI k) (by rw [nI_sb (by omega), show S + k - S = k by omega]) ?_
        refine lv_iconst (v := 3) hx hb dX11_readsNumber_33 (by decide) ?_
        refine lv_icmp_ge (tgt := 59) hx hb dX11_readsNumber_34 (by decide) (fun c_4 => ?_) (fun c_4 => ?_)
        · have hvN : k + 1 ≤ 3 → vv = vnR byt S (k + 1) := fun h => absurd ((nI_leI (a := 3) (by omega) (by omega)).mp c_4) (by omega)
          refine lv_aload_n hx hb dX11_readsNumber_59 rfl (lv_at hl 0 rfl) ?_
          refine rg hf hk hw hinX11 0 rfl rfl 12 (by decide) w_0 rfl dX11_readsNumber_60 ?_
          refine rp hf hk hw hinX11 tyX11 tyX11_ok nmX11 0 rfl rfl 12 (by decide) w_0 rfl (rfl) rfl (Nat.le_of_ble_eq_true rfl) dX11_readsNumber_63 (W' := [cob oh 11 [.ref os, .ref ok, .ref ol, .ref ord, .int isk, .ref odd, .ref otp, .int (nI tpd), .ref olt, .int (nI (S + k)), .int (nI S), .int otk, .int vv, .ref orw, .int (nI rmn), .ref oso, .ref osz, .ref oit, .ref oho, .ref ohe, .ref otr, .int (nI tcd), .int own_, .int opt], cin g os 51 (mR stp laws z cnt fogs arms kinds faiths places moved), cin g ord 51 rr, cin g otp 200 (ubT byt), cch g olt 120 mlet]) rfl (fun H locs hw => ?_)
          refine lv_aload_n hx hb dX11_readsNumber_66 rfl (lv_at hl 0 rfl) ?_
          refine lv_dup hx hb dX11_readsNumber_67 rfl ?_
          refine rg hf hk hw hinX11 0 rfl rfl 9 (by decide) w_1 rfl dX11_readsNumber_68 ?_
          refine lv_iconst (v := 1) hx hb dX11_readsNumber_71 (by decide) ?_
          refine lv_iadd hx hb dX11_readsNumber_72 ?_
          refine lv_tope (y := nI (S + (k + 1))) (nI_1 _) ?_
          refine rp hf hk hw hinX11 tyX11 tyX11_ok nmX11 0 rfl rfl 9 (by decide) w_1 rfl (rfl) rfl (Nat.le_of_ble_eq_true rfl) dX11_readsNumber_73 (W' := [cob oh 11 [.ref os, .ref ok, .ref ol, .ref ord, .int isk, .ref odd, .ref otp, .int (nI tpd), .ref olt, .int (nI (S + (k + 1))), .int (nI S), .int otk, .int vv, .ref orw, .int (nI rmn), .ref oso, .ref osz, .ref oit, .ref oho, .ref ohe, .ref otr, .int (nI tcd), .int own_, .int opt], cin g os 51 (mR stp laws z cnt fogs arms kinds faiths places moved), cin g ord 51 rr, cin g otp 200 (ubT byt), cch g olt 120 mlet]) rfl (fun H locs hw => ?_)
          refine lv_goto (tgt := 5) hx hb dX11_readsNumber_76 (by decide) ?_
          exact ih_5 (k + 1) vv (by omega) (by omega) (by rw [eS, hm]; exact hgo.1) (hvN) _ _ hw _ (lv_sub hl [0] rfl)
        · have hk3 := c_4
          have hvN : k + 1 ≤ 3 → 10 * vv + baF byt tpd (S + k) - 48 = vnR byt S (k + 1) := fun h => by rw [eV (by omega), hgo.2.2.2, Int32.mul_comm]; rfl
          refine lv_bipush (v := 10) hx hb dX11_readsNumber_37 (by decide) ?_
          refine lv_aload_n hx hb dX11_readsNumber_39 rfl (lv_at hl 0 rfl) ?_
          refine rg hf hk hw hinX11 0 rfl rfl 12 (by decide) w_0 rfl dX11_readsNumber_40 ?_
          refine lv_imul hx hb dX11_readsNumber_43 ?_
          refine lv_aload_n hx hb dX11_readsNumber_44 rfl (lv_at hl 0 rfl) ?_
          refine lv_aload_n hx hb dX11_readsNumber_45 rfl (lv_at hl 0 rfl) ?_
          refine rg hf hk hw hinX11 0 rfl rfl 9 (by decide) w_1 rfl dX11_readsNumber_46 ?_
          refine mcV hf hk hst hw (c_X11_byteAt l g oh os ok ol ord odd otp olt orw oso osz oit oho ohe otr isk tpd (nI (S + k)) (nI S) otk vv rmn tcd own_ opt byt (S + k) (by omega) (by omega)) (cwV 1 hts gX11_readsNumber_X11_byteAt rfl rfl rfl hdV_X11_byteAt ⟨Nat.le_of_ble_eq_true rfl, Nat.le_of_ble_eq_true rfl⟩) [0, 3] rfl rfl 0 rfl rfl rfl hl.1 rfl (Nat.le_of_ble_eq_true rfl) dX11_readsNumber_49 ⟨Nat.zero_le _, Nat.zero_le _⟩ (W' := [cob oh 11 [.ref os, .ref ok, .ref ol, .ref ord, .int isk, .ref odd, .ref otp, .int (nI tpd), .ref olt, .int (nI (S + k)), .int (nI S), .int otk, .int vv, .ref orw, .int (nI rmn), .ref oso, .ref osz, .ref oit, .ref oho, .ref ohe, .ref otr, .int (nI tcd), .int own_, .int opt], cin g os 51 (mR stp laws z cnt fogs arms kinds faiths places moved), cin g ord 51 rr, cin g otp 200 (ubT byt), cch g olt 120 mlet]) rfl (fun H locs hw => ?_)
          refine lv_iadd hx hb dX11_readsNumber_52 ?_
          refine lv_bipush (v := 48) hx hb dX11_readsNumber_53 (by decide) ?_
          refine lv_isub hx hb dX11_readsNumber_55 ?_
          refine lv_goto (tgt := 63) hx hb dX11_readsNumber_56 (by decide) ?_
          refine rp hf hk hw hinX11 tyX11 tyX11_ok nmX11 0 rfl rfl 12 (by decide) w_0 rfl (rfl) rfl (Nat.le_of_ble_eq_true rfl) dX11_readsNumber_63 (W' := [cob oh 11 [.ref os, .ref ok, .ref ol, .ref ord, .int isk, .ref odd, .ref otp, .int (nI tpd), .ref olt, .int (nI (S + k)), .int (nI S), .int otk, .int (((10 * vv) + (baF byt tpd (S + k))) - 48), .ref orw, .int (nI rmn), .ref oso, .ref osz, .ref oit, .ref oho, .ref ohe, .ref otr, .int (nI tcd), .int own_, .int opt], cin g os 51 (mR stp laws z cnt fogs arms kinds faiths places moved), cin g ord 51 rr, cin g otp 200 (ubT byt), cch g olt 120 mlet]) rfl (fun H locs hw => ?_)
          refine lv_aload_n hx hb dX11_readsNumber_66 rfl (lv_at hl 0 rfl) ?_
          refine lv_dup hx hb dX11_readsNumber_67 rfl ?_
          refine rg hf hk hw hinX11 0 rfl rfl 9 (by decide) w_1 rfl dX11_readsNumber_68 ?_
          refine lv_iconst (v := 1) hx hb dX11_readsNumber_71 (by decide) ?_
          refine lv_iadd hx hb dX11_readsNumber_72 ?_
          refine lv_tope (y := nI (S + (k + 1))) (nI_1 _) ?_
          refine rp hf hk hw hinX11 tyX11 tyX11_ok nmX11 0 rfl rfl 9 (by decide) w_1 rfl (rfl) rfl (Nat.le_of_ble_eq_true rfl) dX11_readsNumber_73 (W' := [cob oh 11 [.ref os, .ref ok, .ref ol, .ref ord, .int isk, .ref odd, .ref otp, .int (nI tpd), .ref olt, .int (nI (S + (k + 1))), .int (nI S), .int otk, .int (((10 * vv) + (baF byt tpd (S + k))) - 48), .ref orw, .int (nI rmn), .ref oso, .ref osz, .ref oit, .ref oho, .ref ohe, .ref otr, .int (nI tcd), .int own_, .int opt], cin g os 51 (mR stp laws z cnt fogs arms kinds faiths places moved), cin g ord 51 rr, cin g otp 200 (ubT byt), cch g olt 120 mlet]) rfl (fun H locs hw => ?_)
          refine lv_goto (tgt := 5) hx hb dX11_readsNumber_76 (by decide) ?_
          exact ih_5 (k + 1) (((10 * vv) + (baF byt tpd (S + k))) - 48) (by omega) (by omega) (by rw [eS, hm]; exact hgo.1) (hvN) _ _ hw _ (lv_sub hl [0] rfl)
  exact lp_5_0 ((tpd - S) + 1) 0 0 (by omega) (by omega) (rfl) (fun _ => rfl) _ _ hw _ (lv_sub hl [0] rfl)
theorem hdV_X11_readsNumber : yX11_readsNumber.cls = RX11 ∧ yX11_readsNumber.cls ≠ "java/lang/invoke/MethodHandle" ∧ yX11_readsNumber.cls ≠ "java/lang/invoke/VarHandle" ∧ (parseMethodDescriptor yX11_readsNumber.desc).map (fun d => d.parameters.length) = some 0 := by decide +kernel
theorem hdV_X11_readsName : yX11_readsName.cls = RX11 ∧ yX11_readsName.cls ≠ "java/lang/invoke/MethodHandle" ∧ yX11_readsName.cls ≠ "java/lang/invoke/VarHandle" ∧ (parseMethodDescriptor yX11_readsName.desc).map (fun d => d.parameters.length) = some 0 := by decide +kernel
abbrev rmX11_next : Room := { frames := 3, cells := 0, slots := 0, locals := 65 }
set_option maxHeartbeats 4000000 in
set_option maxRecDepth 100000 in
theorem c_X11_next (l : Launch) (g : GG) (oh : Nat) (os : Nat) (ok : Nat) (ol : Nat) (ord : Nat) (odd : Nat) (otp : Nat) (olt : Nat) (orw : Nat) (oso : Nat) (osz : Nat) (oit : Nat) (oho : Nat) (ohe : Nat) (otr : Nat) (stp : Nat) (laws : Nat → Int32) (z : Int32) (cnt : Nat) (fogs : Nat → Int32) (arms : Nat → Int32) (kinds : Nat → Int32) (faiths : Nat → Int32) (places : Nat → Int32) (moved : Nat → Int32) (isk : Int32) (tpd : Nat) (obg : Int32) (otk : Int32) (ovl : Int32) (rmn : Nat) (tcd : Nat) (own_ : Int32) (opt : Int32) (rr : Nat → Int32) (byt : Nat → Int32) (we : Nat) (htz : tpd ≤ 200) (hby : ∀ j, isB (byt j)) (hwe : we ≤ tpd) : mtR l g yX11_next wsX11_next rmX11_next [.ref oh] [cob oh 11 [.ref os, .ref ok, .ref ol, .ref ord, .int isk, .ref odd, .ref otp, .int (nI tpd), .ref olt, .int (nI we), .int obg, .int otk, .int ovl, .ref orw, .int (nI rmn), .ref oso, .ref osz, .ref oit, .ref oho, .ref ohe, .ref otr, .int (nI tcd), .int own_, .int opt], cin g os 51 (mR stp laws z cnt fogs arms kinds faiths places moved), cin g ord 51 rr, cin g otp 200 (ubT byt), cch g olt 120 mlet] (fun rv W => rv = none ∧ ∃ (j0 : Int32), (vOk byt tpd we j0) ∧ W = [cob oh 11 [.ref os, .ref ok, .ref ol, .ref ord, .int isk, .ref odd, .ref otp, .int (nI tpd), .ref olt, .int (nI (wdE byt tpd we)), .int (nI (wdS byt tpd we)), .int (tkF byt tpd we), .int j0, .ref orw, .int (nI rmn), .ref oso, .ref osz, .ref oit, .ref oho, .ref ohe, .ref otr, .int (nI tcd), .int own_, .int opt], cin g os 51 (mR stp laws z cnt fogs arms kinds faiths places moved), cin g ord 51 rr, cin g otp 200 (ubT byt), cch g olt 120 mlet]) := by
  refine mtR.of (cc := cX11_next) (nL := 2) (ret := none) (own := RX11) (by decide +kernel) rfl rfl (Nat.le_of_ble_eq_true rfl) (fun p e s m below meth c hf hr hlk _ hk hst hw ls hl => ?_)
  have hx := hf.1
  have hb := hf.2.1
  have hts := hf.2.2.2.2
  have hl : lv_has ls 2 [(0, .ref oh)] := hl
  have hSb := wdS_b byt htz hwe
  have hinX11 : ∀ w ∈ u_ws RX11 TX11 24, w ∈ wsX11_next := fun w h => List.mem_cons_of_mem _ (List.mem_append_right _ h)
  have w_0 : Cond.fieldLink RX11 110 "LightManModel" "at" "I" ∈ wsX11_next := List.mem_of_getElem? (i := 1) rfl
  have w_1 : Cond.fieldLink RX11 113 "LightManModel" "begun" "I" ∈ wsX11_next := List.mem_of_getElem? (i := 2) rfl
  have w_2 : Cond.fieldLink RX11 119 "LightManModel" "token" "I" ∈ wsX11_next := List.mem_of_getElem? (i := 3) rfl
  have lp_0_0 : ∀ (fu k : Nat), k ≤ (tpd - we) → (tpd - we) + 1 ≤ k + fu → (skB byt tpd (tpd - we + 1) we = skB byt tpd (tpd - we - k + 1) (we + k)) → ∀ (H : Heap) (locs : List Loc), hv g (va_I [cob oh 11 [.ref os, .ref ok, .ref ol, .ref ord, .int isk, .ref odd, .ref otp, .int (nI tpd), .ref olt, .int (nI we), .int obg, .int otk, .int ovl, .ref orw, .int (nI rmn), .ref oso, .ref osz, .ref oit, .ref oho, .ref ohe, .ref otr, .int (nI tcd), .int own_, .int opt], cin g os 51 (mR stp laws z cnt fogs arms kinds faiths places moved), cin g ord 51 rr, cin g otp 200 (ubT byt), cch g olt 120 mlet]) s H locs [cob oh 11 [.ref os, .ref ok, .ref ol, .ref ord, .int isk, .ref odd, .ref otp, .int (nI tpd), .ref olt, .int (nI (we + k)), .int obg, .int otk, .int ovl, .ref orw, .int (nI rmn), .ref oso, .ref osz, .ref oit, .ref oho, .ref ohe, .ref otr, .int (nI tcd), .int own_, .int opt], cin g os 51 (mR stp laws z cnt fogs arms kinds faiths places moved), cin g ord 51 rr, cin g otp 200 (ubT byt), cch g olt 120 mlet] → ∀ ls : Array Slot, lv_has ls 2 [(0, .ref oh)] → W p l e rmX11_next s m ([.ref oh] : List Value).toArray below meth c H locs 0 0 (MQ below (mtS g [cob oh 11 [.ref os, .ref ok, .ref ol, .ref ord, .int isk, .ref odd, .ref otp, .int (nI tpd), .ref olt, .int (nI we), .int obg, .int otk, .int ovl, .ref orw, .int (nI rmn), .ref oso, .ref osz, .ref oit, .ref oho, .ref ohe, .ref otr, .int (nI tcd), .int own_, .int opt], cin g os 51 (mR stp laws z cnt fogs arms kinds faiths places moved), cin g ord 51 rr, cin g otp 200 (ubT byt), cch g olt 120 mlet] (fun rv W => rv = none ∧ ∃ (j0 : Int32), (vOk byt tpd we j0) ∧ W = [cob oh 11 [.ref os, .ref ok, .ref ol, .ref ord, .int isk, .ref odd, .ref otp, .int (nI tpd), .ref olt, .int (nI (wdE byt tpd we)), .int (nI (wdS byt tpd we)), .int (tkF byt tpd we), .int j0, .ref orw, .int (nI rmn), .ref oso, .ref osz, .ref oit, .ref oho, .ref ohe, .ref otr, .int (nI tcd), .int own_, .int opt], cin g os 51 (mR stp laws z cnt fogs arms kinds faiths places moved), cin g ord 51 rr, cin g otp 200 (ubT byt), cch g olt 120 mlet])) ([.ref oh] : List Value).toArray s 0 0 (va_I [cob oh 11 [.ref os, .ref ok, .ref ol, .ref ord, .int isk, .ref odd, .ref otp, .int (nI tpd), .ref olt, .int (nI we), .int obg, .int otk, .int ovl, .ref orw, .int (nI rmn), .ref oso, .ref osz, .ref oit, .ref oho, .ref ohe, .ref otr, .int (nI tcd), .int own_, .int opt], cin g os 51 (mR stp laws z cnt fogs arms kinds faiths places moved), cin g ord 51 rr, cin g otp 200 (ubT byt), cch g olt 120 mlet])) (F0 m 0 ls []) := by
    intro fu
    induction fu with
    | zero =>
      intro k h1 h2
      exact absurd h2 (by omega)
    | succ fu ih_0 =>
      intro k hk1_0 hk2_0 eS H locs hw ls hl
      refine lv_aload_n hx hb dX11_next_0 rfl (lv_at hl 0 rfl) ?_
      refine lv_aload_n hx hb dX11_next_1 rfl (lv_at hl 0 rfl) ?_
      refine rg hf hk hw hinX11 0 rfl rfl 9 (by decide) w_0 rfl dX11_next_2 ?_
      refine mcV hf hk hst hw (c_X11_byteAt l g oh os ok ol ord odd otp olt orw oso osz oit oho ohe otr isk tpd (nI (we + k)) obg otk ovl rmn tcd own_ opt byt (we + k) (by omega) (by omega)) (cwV 1 hts gX11_next_X11_byteAt rfl rfl rfl hdV_X11_byteAt ⟨Nat.le_of_ble_eq_true rfl, Nat.le_of_ble_eq_true rfl⟩) [0, 3] rfl rfl 0 rfl rfl rfl hl.1 rfl (Nat.le_of_ble_eq_true rfl) dX11_next_5 ⟨Nat.zero_le _, Nat.zero_le _⟩ (W' := [cob oh 11 [.ref os, .ref ok, .ref ol, .ref ord, .int isk, .ref odd, .ref otp, .int (nI tpd), .ref olt, .int (nI (we + k)), .int obg, .int otk, .int ovl, .ref orw, .int (nI rmn), .ref oso, .ref osz, .ref oit, .ref oho, .ref ohe, .ref otr, .int (nI tcd), .int own_, .int opt], cin g os 51 (mR stp laws z cnt fogs arms kinds faiths places moved), cin g ord 51 rr, cin g otp 200 (ubT byt), cch g olt 120 mlet]) rfl (fun H locs hw => ?_)
      refine lv_bipush (v := 32) hx hb dX11_next_8 (by decide) ?_
      refine lv_icmp_ne (tgt := 26) hx hb dX11_next_10 (by decide) (fun c_2 => ?_) (fun c_2 => ?_)
      · have eS2 : we + k = (wdS byt tpd we) := by show _ = skB byt tpd (tpd - we + 1) we; rw [eS]; exact (ba_n32 (hby _) c_2).symm
        rw [eS2] at hw
        refine lv_aload_n hx hb dX11_next_26 rfl (lv_at hl 0 rfl) ?_
        refine lv_aload_n hx hb dX11_next_27 rfl (lv_at hl 0 rfl) ?_
        refine rg hf hk hw hinX11 0 rfl rfl 9 (by decide) w_0 rfl dX11_next_28 ?_
        refine rp hf hk hw hinX11 tyX11 tyX11_ok nmX11 0 rfl rfl 10 (by decide) w_1 rfl (rfl) rfl (Nat.le_of_ble_eq_true rfl) dX11_next_31 (W' := [cob oh 11 [.ref os, .ref ok, .ref ol, .ref ord, .int isk, .ref odd, .ref otp, .int (nI tpd), .ref olt, .int (nI (wdS byt tpd we)), .int (nI (wdS byt tpd we)), .int otk, .int ovl, .ref orw, .int (nI rmn), .ref oso, .ref osz, .ref oit, .ref oho, .ref ohe, .ref otr, .int (nI tcd), .int own_, .int opt], cin g os 51 (mR stp laws z cnt fogs arms kinds faiths places moved), cin g ord 51 rr, cin g otp 200 (ubT byt), cch g olt 120 mlet]) rfl (fun H locs hw => ?_)
        refine lv_aload_n hx hb dX11_next_34 rfl (lv_at hl 0 rfl) ?_
        refine lv_aload_n hx hb dX11_next_35 rfl (lv_at hl 0 rfl) ?_
        refine rg hf hk hw hinX11 0 rfl rfl 9 (by decide) w_0 rfl dX11_next_36 ?_
        refine mcV hf hk hst hw (c_X11_byteAt l g oh os ok ol ord odd otp olt orw oso osz oit oho ohe otr isk tpd (nI (wdS byt tpd we)) (nI (wdS byt tpd we)) otk ovl rmn tcd own_ opt byt (wdS byt tpd we) (by omega) (by omega)) (cwV 1 hts gX11_next_X11_byteAt rfl rfl rfl hdV_X11_byteAt ⟨Nat.le_of_ble_eq_true rfl, Nat.le_of_ble_eq_true rfl⟩) [0, 3] rfl rfl 0 rfl rfl rfl hl.1 rfl (Nat.le_of_ble_eq_true rfl) dX11_next_39 ⟨Nat.zero_le _, Nat.zero_le _⟩ (W' := [cob oh 11 [.ref os, .ref ok, .ref ol, .ref ord, .int isk, .ref odd, .ref otp, .int (nI tpd), .ref olt, .int (nI (wdS byt tpd we)), .int (nI (wdS byt tpd we)), .int otk, .int ovl, .ref orw, .int (nI rmn), .ref oso, .ref osz, .ref oit, .ref oho, .ref ohe, .ref otr, .int (nI tcd), .int own_, .int opt], cin g os 51 (mR stp laws z cnt fogs arms kinds faiths places moved), cin g ord 51 rr, cin g otp 200 (ubT byt), cch g olt 120 mlet]) rfl (fun H locs hw => ?_)
        refine lv_istore_n (lv' := [(1, .int (baF byt tpd (wdS byt tpd we))), (0, .ref oh)]) hx hb dX11_next_42 rfl hl (by decide) rfl (fun ls hl => ?_)
        refine lv_iload_n hx hb dX11_next_43 rfl (lv_at hl 0 rfl) ?_
        refine lv_if_ge (tgt := 55) hx hb dX11_next_44 (by decide) (fun c_3 => ?_) (fun c_3 => ?_)
        · refine lv_iload_n hx hb dX11_next_55 rfl (lv_at hl 0 rfl) ?_
          refine lv_bipush (v := 97) hx hb dX11_next_56 (by decide) ?_
          refine lv_bipush (v := 122) hx hb dX11_next_58 (by decide) ?_
          refine mcS hf hk hst hw (c_X11_in1 l g (baF byt tpd (wdS byt tpd we)) 97 122) (va_cwS 3 hts gX11_next_X11_in1 rfl rfl rfl hdS_X11_in1 ⟨Nat.le_of_ble_eq_true rfl, Nat.le_of_ble_eq_true rfl⟩) [] rfl rfl rfl hl.1 rfl (Nat.le_of_ble_eq_true rfl) dX11_next_60 ⟨Nat.zero_le _, Nat.zero_le _⟩ (W' := [cob oh 11 [.ref os, .ref ok, .ref ol, .ref ord, .int isk, .ref odd, .ref otp, .int (nI tpd), .ref olt, .int (nI (wdS byt tpd we)), .int (nI (wdS byt tpd we)), .int otk, .int ovl, .ref orw, .int (nI rmn), .ref oso, .ref osz, .ref oit, .ref oho, .ref ohe, .ref otr, .int (nI tcd), .int own_, .int opt], cin g os 51 (mR stp laws z cnt fogs arms kinds faiths places moved), cin g ord 51 rr, cin g otp 200 (ubT byt), cch g olt 120 mlet]) rfl (fun H locs hw => ?_)
          refine lv_if_eq (tgt := 73) hx hb dX11_next_63 (by decide) (fun c_4 => ?_) (fun c_4 => ?_)
          · refine lv_iload_n hx hb dX11_next_73 rfl (lv_at hl 0 rfl) ?_
            refine lv_bipush (v := 48) hx hb dX11_next_74 (by decide) ?_
            refine lv_bipush (v := 57) hx hb dX11_next_76 (by decide) ?_
            refine mcS hf hk hst hw (c_X11_in1 l g (baF byt tpd (wdS byt tpd we)) 48 57) (va_cwS 3 hts gX11_next_X11_in1 rfl rfl rfl hdS_X11_in1 ⟨Nat.le_of_ble_eq_true rfl, Nat.le_of_ble_eq_true rfl⟩) [] rfl rfl rfl hl.1 rfl (Nat.le_of_ble_eq_true rfl) dX11_next_78 ⟨Nat.zero_le _, Nat.zero_le _⟩ (W' := [cob oh 11 [.ref os, .ref ok, .ref ol, .ref ord, .int isk, .ref odd, .ref otp, .int (nI tpd), .ref olt, .int (nI (wdS byt tpd we)), .int (nI (wdS byt tpd we)), .int otk, .int ovl, .ref orw, .int (nI rmn), .ref oso, .ref osz, .ref oit, .ref oho, .ref ohe, .ref otr, .int (nI tcd), .int own_, .int opt], cin g os 51 (mR stp laws z cnt fogs arms kinds faiths places moved), cin g ord 51 rr, cin g otp 200 (ubT byt), cch g olt 120 mlet]) rfl (fun H locs hw => ?_)
            refine lv_if_eq (tgt := 91) hx hb dX11_next_81 (by decide) (fun c_5 => ?_) (fun c_5 => ?_)
            · refine lv_aload_n hx hb dX11_next_91 rfl (lv_at hl 1 rfl) ?_
              refine lv_sipush (v := 200) hx hb dX11_next_92 (by decide) ?_
              refine lv_iload_n hx hb dX11_next_95 rfl (lv_at hl 0 rfl) ?_
              refine lv_iadd hx hb dX11_next_96 ?_
              refine rp hf hk hw hinX11 tyX11 tyX11_ok nmX11 0 rfl rfl 11 (by decide) w_2 rfl (rfl) rfl (Nat.le_of_ble_eq_true rfl) dX11_next_97 (W' := [cob oh 11 [.ref os, .ref ok, .ref ol, .ref ord, .int isk, .ref odd, .ref otp, .int (nI tpd), .ref olt, .int (nI (wdS byt tpd we)), .int (nI (wdS byt tpd we)), .int (200 + (baF byt tpd (wdS byt tpd we))), .int ovl, .ref orw, .int (nI rmn), .ref oso, .ref osz, .ref oit, .ref oho, .ref ohe, .ref otr, .int (nI tcd), .int own_, .int opt], cin g os 51 (mR stp laws z cnt fogs arms kinds faiths places moved), cin g ord 51 rr, cin g otp 200 (ubT byt), cch g olt 120 mlet]) rfl (fun H locs hw => ?_)
              refine lv_aload_n hx hb dX11_next_100 rfl (lv_at hl 1 rfl) ?_
              refine lv_dup hx hb dX11_next_101 rfl ?_
              refine rg hf hk hw hinX11 0 rfl rfl 9 (by decide) w_0 rfl dX11_next_102 ?_
              refine lv_iconst (v := 1) hx hb dX11_next_105 (by decide) ?_
              refine lv_iadd hx hb dX11_next_106 ?_
              refine lv_tope (y := nI ((wdS byt tpd we) + 1)) (nI_1 _) ?_
              refine rp hf hk hw hinX11 tyX11 tyX11_ok nmX11 0 rfl rfl 9 (by decide) w_0 rfl (rfl) rfl (Nat.le_of_ble_eq_true rfl) dX11_next_107 (W' := [cob oh 11 [.ref os, .ref ok, .ref ol, .ref ord, .int isk, .ref odd, .ref otp, .int (nI tpd), .ref olt, .int (nI ((wdS byt tpd we) + 1)), .int (nI (wdS byt tpd we)), .int (200 + (baF byt tpd (wdS byt tpd we))), .int ovl, .ref orw, .int (nI rmn), .ref oso, .ref osz, .ref oit, .ref oho, .ref ohe, .ref otr, .int (nI tcd), .int own_, .int opt], cin g os 51 (mR stp laws z cnt fogs arms kinds faiths places moved), cin g ord 51 rr, cin g otp 200 (ubT byt), cch g olt 120 mlet]) rfl (fun H locs hw => ?_)
              have hlt := ba_lt (by omega) (by omega) c_3
              have hs1 : ¬ sortB (byt (wdS byt tpd we)) = 1 := fun q => by have := (isB_w (hby (wdS byt tpd we))).2.1; have hx1 := c_4; unfold baF at hx1; rw [if_neg (nI_ge hlt (by omega))] at hx1; exact this.mp hx1 q
              have hs2 : ¬ sortB (byt (wdS byt tpd we)) = 2 := fun q => by have := (isB_w (hby (wdS byt tpd we))).2.2.1; have hx1 := c_5; unfold baF at hx1; rw [if_neg (nI_ge hlt (by omega))] at hx1; exact this.mp hx1 q
              have hs3 : sortB (byt (wdS byt tpd we)) = 3 := ((isB_w (hby (wdS byt tpd we))).2.2.2.2.2.2.2.2.resolve_left hs1).resolve_left hs2
              have hw_ := wd_3 hlt htz hs3
              have hba : baF byt tpd (wdS byt tpd we) = byt (wdS byt tpd we) &&& 255 := if_neg (nI_ge hlt (by omega))
              exact rE_v hf hr hlk hw ⟨rfl, ovl, fun h => absurd (hw_.1.symm.trans h) (by decide), by rw [show tkF byt tpd we = 200 + (byt (wdS byt tpd we) &&& 255) from (if_neg (by rw [hw_.1]; decide)).trans ((if_neg (by rw [hw_.1]; decide)).trans (if_neg (by rw [hw_.1]; decide))), hw_.2, hba]⟩ (show ([oh, os, ord, otp, olt] : List Nat) = [oh, os, ord, otp, olt] from rfl) dX11_next_110
            · refine lv_aload_n hx hb dX11_next_84 rfl (lv_at hl 1 rfl) ?_
              refine mcVF hf hk hst hw (c_X11_readsNumber l g oh os ok ol ord odd otp olt orw oso osz oit oho ohe otr stp laws z cnt fogs arms kinds faiths places moved isk tpd otk ovl rmn tcd own_ opt rr byt (wdS byt tpd we) (by omega) (by assumption) (by omega)) (cwV 0 hts gX11_next_X11_readsNumber rfl rfl rfl hdV_X11_readsNumber ⟨Nat.le_of_ble_eq_true rfl, Nat.le_of_ble_eq_true rfl⟩) 0 rfl rfl rfl hl.1 rfl (Nat.le_of_ble_eq_true rfl) dX11_next_85 ⟨Nat.zero_le _, Nat.zero_le _⟩ (fun rv ws2 hPo H locs hw => ?_)
              obtain ⟨rfl, u6_j0, u6_s, rfl⟩ := hPo
              refine lv_goto (tgt := 110) hx hb dX11_next_88 (by decide) ?_
              have hlt := ba_lt (by omega) (by omega) c_3
              have hs := (en_2n (m := 0) (hby _) c_5).2.2.1
              have hw_ := wd_in hlt htz hs (by decide)
              exact rE_v hf hr hlk hw ⟨rfl, u6_j0, fun _ h3 => by rw [hw_.2] at h3 ⊢; exact u6_s h3, by rw [show tkF byt tpd we = if nI (wdE byt tpd we - (wdS byt tpd we)) ≤ 3 then 100 else 101 from (if_neg (by rw [hw_.1]; decide)).trans ((if_neg (by rw [hw_.1]; decide)).trans (if_pos hw_.1)), hw_.2]⟩ (show ([oh, os, ord, otp, olt] : List Nat) = [oh, os, ord, otp, olt] from rfl) dX11_next_110
          · refine lv_aload_n hx hb dX11_next_66 rfl (lv_at hl 1 rfl) ?_
            refine mcV hf hk hst hw (c_X11_readsName l g oh os ok ol ord odd otp olt orw oso osz oit oho ohe otr isk tpd otk ovl rmn tcd own_ opt byt (wdS byt tpd we) (by omega) (by assumption) (by omega)) (cwV 0 hts gX11_next_X11_readsName rfl rfl rfl hdV_X11_readsName ⟨Nat.le_of_ble_eq_true rfl, Nat.le_of_ble_eq_true rfl⟩) [0, 3, 4] rfl rfl 0 rfl rfl rfl hl.1 rfl (Nat.le_of_ble_eq_true rfl) dX11_next_67 ⟨Nat.zero_le _, Nat.zero_le _⟩ (W' := [cob oh 11 [.ref os, .ref ok, .ref ol, .ref ord, .int isk, .ref odd, .ref otp, .int (nI tpd), .ref olt, .int (nI (enB byt tpd 1 (tpd - (wdS byt tpd we) + 1) (wdS byt tpd we))), .int (nI (wdS byt tpd we)), .int (tnM byt tpd (wdS byt tpd we) (enB byt tpd 1 (tpd - (wdS byt tpd we) + 1) (wdS byt tpd we)) 15), .int ovl, .ref orw, .int (nI rmn), .ref oso, .ref osz, .ref oit, .ref oho, .ref ohe, .ref otr, .int (nI tcd), .int own_, .int opt], cin g os 51 (mR stp laws z cnt fogs arms kinds faiths places moved), cin g ord 51 rr, cin g otp 200 (ubT byt), cch g olt 120 mlet]) rfl (fun H locs hw => ?_)
            refine lv_goto (tgt := 110) hx hb dX11_next_70 (by decide) ?_
            have hlt := ba_lt (by omega) (by omega) c_3
            have hs := (en_1n (m := 0) (hby _) c_4).2.2
            have hw_ := wd_in hlt htz hs (by decide)
            have hall : ∀ j, (wdS byt tpd we) ≤ j → j < wdE byt tpd we → sortB (byt j) = 1 := fun j h1 h2 => by rw [hw_.2] at h2; exact en_all byt tpd 1 _ _ j h1 h2
            have hEb := wdE_b byt htz hwe
            exact rE_v hf hr hlk hw ⟨rfl, ovl, fun h => absurd (hw_.1.symm.trans h) (by decide), by rw [show tkF byt tpd we = tkW byt (wdS byt tpd we) (wdE byt tpd we) 15 from (if_neg (by rw [hw_.1]; decide)).trans (if_pos hw_.1), ← tn_eq hEb.1 hEb.2 htz hall hby 15 (Nat.le_refl _), hw_.2]⟩ (show ([oh, os, ord, otp, olt] : List Nat) = [oh, os, ord, otp, olt] from rfl) dX11_next_110
        · refine lv_aload_n hx hb dX11_next_47 rfl (lv_at hl 1 rfl) ?_
          refine lv_iconst (v := (-1)) hx hb dX11_next_48 (by decide) ?_
          refine rp hf hk hw hinX11 tyX11 tyX11_ok nmX11 0 rfl rfl 11 (by decide) w_2 rfl (rfl) rfl (Nat.le_of_ble_eq_true rfl) dX11_next_49 (W' := [cob oh 11 [.ref os, .ref ok, .ref ol, .ref ord, .int isk, .ref odd, .ref otp, .int (nI tpd), .ref olt, .int (nI (wdS byt tpd we)), .int (nI (wdS byt tpd we)), .int (-1), .int ovl, .ref orw, .int (nI rmn), .ref oso, .ref osz, .ref oit, .ref oho, .ref ohe, .ref otr, .int (nI tcd), .int own_, .int opt], cin g os 51 (mR stp laws z cnt fogs arms kinds faiths places moved), cin g ord 51 rr, cin g otp 200 (ubT byt), cch g olt 120 mlet]) rfl (fun H locs hw => ?_)
          refine lv_goto (tgt := 110) hx hb dX11_next_52 (by decide) ?_
          have hw_ := wd_end hby c_3
          exact rE_v hf hr hlk hw ⟨rfl, ovl, fun h => absurd (hw_.1.symm.trans h) (by decide), by rw [hw_.2, show tkF byt tpd we = -1 from if_pos hw_.1]⟩ (show ([oh, os, ord, otp, olt] : List Nat) = [oh, os, ord, otp, olt] from rfl) dX11_next_110
      · have hgo := ba_32 (m := tpd - we - (k + 1) + 1) (hby (we + k)) c_2
        have hlt : we + k < tpd := Nat.not_le.mp (fun h => hgo.2 (nI_le h (by omega)))
        have hm : tpd - we - k + 1 = (tpd - we - (k + 1) + 1) + 1 := by omega
        refine lv_aload_n hx hb dX11_next_13 rfl (lv_at hl 0 rfl) ?_
        refine lv_dup hx hb dX11_next_14 rfl ?_
        refine rg hf hk hw hinX11 0 rfl rfl 9 (by decide) w_0 rfl dX11_next_15 ?_
        refine lv_iconst (v := 1) hx hb dX11_next_18 (by decide) ?_
        refine lv_iadd hx hb dX11_next_19 ?_
        refine lv_tope (y := nI (we + (k + 1))) (nI_1 _) ?_
        refine rp hf hk hw hinX11 tyX11 tyX11_ok nmX11 0 rfl rfl 9 (by decide) w_0 rfl (rfl) rfl (Nat.le_of_ble_eq_true rfl) dX11_next_20 (W' := [cob oh 11 [.ref os, .ref ok, .ref ol, .ref ord, .int isk, .ref odd, .ref otp, .int (nI tpd), .ref olt, .int (nI (we + (k + 1))), .int obg, .int otk, .int ovl, .ref orw, .int (nI rmn), .ref oso, .ref osz, .ref oit, .ref oho, .ref ohe, .ref otr, .int (nI tcd), .int own_, .int opt], cin g os 51 (mR stp laws z cnt fogs arms kinds faiths places moved), cin g ord 51 rr, cin g otp 200 (ubT byt), cch g olt 120 mlet]) rfl (fun H locs hw => ?_)
        refine lv_goto (tgt := 0) hx hb dX11_next_23 (by decide) ?_
        exact ih_0 (k + 1) (by omega) (by omega) (by rw [eS, hm]; exact hgo.1) _ _ hw _ (lv_sub hl [0] rfl)
  exact lp_0_0 ((tpd - we) + 1) 0 (by omega) (by omega) (rfl) _ _ hw _ (lv_sub hl [0] rfl)
