theorem q_luck {i cnt stp : Nat} {k f p m k' f' p' m' : Nat → Int32} (h : RN i cnt stp k f p m k' f' p' m') (laws fogs arms : Nat → Int32) (z : Int32) : ∀ n, lkS laws fogs arms stp k f p cnt z n = lkS laws fogs arms stp k' f' p' cnt z n
  | 0 => rfl
  | n + 1 => by
    have ih := q_luck h laws fogs arms z n
    have e1 : sumTo (goP laws fogs arms stp k f p cnt) cnt = sumTo (goP laws fogs arms stp k' f' p' cnt) cnt := sumTo_c (goP_c h.2.2.1 h.2.2.2.1 h.2.2.2.2.1)
    have e2 : ∀ x, sumTo (goP laws fogs arms stp k (drF laws f x cnt) p cnt) cnt = sumTo (goP laws fogs arms stp k' (drF laws f' x cnt) p' cnt) cnt := fun x => sumTo_c (goP_c h.2.2.1 (drF_c h.2.2.2.1) h.2.2.2.2.1)
    apply Prod.ext
    · rw [lkS_1, lkS_1, ih, e1, e2]
    · rw [lkS_z, lkS_z, ih]
theorem q_where {i cnt stp : Nat} {k f p m k' f' p' m' : Nat → Int32} (h : RN i cnt stp k f p m k' f' p' m') (laws fogs arms : Nat → Int32) (goer n : Int32) : f_X10_where laws fogs arms k f p m cnt stp goer n = f_X11_where stp laws cnt fogs arms k' f' p' m' goer n := by
  unfold f_X10_where f_X11_where
  simp only [nO_ite]
  by_cases h1 : f_X8_has cnt goer = 0
  · simp only [if_pos h1]
  · have hg := (has_n h.1 h1).2
    rw [h.2.2.1 _ hg, h.2.2.2.1 _ hg, h.2.2.2.2.1 _ hg, h.2.2.2.2.2.1 _ hg]
theorem q_comes {i cnt stp : Nat} {k f p m k' f' p' m' : Nat → Int32} (h : RN i cnt stp k f p m k' f' p' m') (laws fogs arms : Nat → Int32) (goer : Int32) : f_X10_comes laws fogs arms k f p m cnt stp goer = f_X11_comes stp laws cnt fogs arms k' f' p' m' goer := by
  unfold f_X10_comes f_X11_comes cbF
  by_cases h1 : f_X8_has cnt goer = 0
  · simp only [if_pos h1]
  · have hg := (has_n h.1 h1).2
    rw [h.2.2.1 _ hg, h.2.2.2.1 _ hg, h.2.2.2.2.1 _ hg, h.2.2.2.2.2.1 _ hg]
theorem q_sits {i cnt stp : Nat} {k f p m k' f' p' m' : Nat → Int32} (h : RN i cnt stp k f p m k' f' p' m') (laws fogs arms : Nat → Int32) (goer : Int32) : f_X10_sits laws fogs arms k f p m cnt stp goer = f_X11_sits stp laws cnt fogs arms k' f' p' m' goer := by
  unfold f_X10_sits f_X11_sits
  by_cases h1 : f_X8_has cnt goer = 0
  · simp only [if_pos h1]
  · have hg := (has_n h.1 h1).2
    rw [h.2.2.1 _ hg, h.2.2.2.1 _ hg, h.2.2.2.2.1 _ hg, h.2.2.2.2.2.1 _ hg, if_neg h1, if_neg h1]
    exact (fsR_c (fun _ => n1E_1) 60 0).symm
theorem q_back {i cnt stp : Nat} {k f p m k' f' p' m' : Nat → Int32} (h : RN i cnt stp k f p m k' f' p' m') (laws fogs arms : Nat → Int32) (goer : Int32) : f_X10_back laws fogs arms k f p m cnt stp goer = f_X11_back stp laws cnt fogs arms k' f' p' m' goer := by
  unfold f_X10_back f_X11_back
  by_cases h1 : f_X8_has cnt goer = 0
  · simp only [if_pos h1]
  · have hg := (has_n h.1 h1).2
    rw [h.2.2.1 _ hg, h.2.2.2.1 _ hg, h.2.2.2.2.1 _ hg, h.2.2.2.2.2.1 _ hg, if_neg h1, if_neg h1]
    exact (fsR_c (fun _ => n1E_2) 60 0).symm
theorem q_passed {i cnt stp : Nat} {k f p m k' f' p' m' : Nat → Int32} (h : RN i cnt stp k f p m k' f' p' m') (laws fogs arms : Nat → Int32) (n : Int32) : f_X10_passed laws fogs arms k f p m cnt stp n = f_X11_passed stp laws cnt fogs arms k' f' p' m' n := by
  unfold f_X10_passed f_X11_passed
  simp only [nO_ite]
  rw [thrN_c h.2.2.1 h.2.2.2.1 h.2.2.2.2.1 h.2.2.2.2.2.1]
theorem q_armV {i cnt stp : Nat} {k f p m k' f' p' m' : Nat → Int32} (h : RN i cnt stp k f p m k' f' p' m') (laws fogs arms : Nat → Int32) (r n : Nat) : armV laws fogs arms r stp n k f p m cnt = armV laws fogs arms r stp n k' f' p' m' cnt := by
  funext a
  unfold armV
  exact thrN_c h.2.2.1 h.2.2.2.1 h.2.2.2.2.1 h.2.2.2.2.2.1
theorem q_lifV {i cnt stp : Nat} {k f p m k' f' p' m' : Nat → Int32} (h : RN i cnt stp k f p m k' f' p' m') (laws fogs : Nat → Int32) (n : Nat) : lifV laws fogs stp n k f p m cnt = lifV laws fogs stp n k' f' p' m' cnt := by
  funext a
  unfold lifV
  exact thrN_c h.2.2.1 h.2.2.2.1 h.2.2.2.2.1 h.2.2.2.2.2.1
theorem q_fogFor {i cnt stp : Nat} {k f p m k' f' p' m' : Nat → Int32} (h : RN i cnt stp k f p m k' f' p' m') (laws fogs arms : Nat → Int32) (rest goer n : Int32) : (if f_X10_isOutside rest 0 5 = 0 then (if f_X8_has cnt goer = 0 then -1 else if f_X10_isOutside n 0 40 = 0 then dnR (fogQ laws fogs arms (ix rest) (k (ix goer)) stp (f (ix goer)) (p (ix goer)) (m (ix goer)) (ix n)) 10 else -1) else -1) = (if f_X10_isOutside rest 0 5 = 0 then (if f_X8_has cnt goer = 0 then -1 else if f_X10_isOutside n 0 40 = 0 then dnR (fogQ laws fogs arms (ix rest) (k' (ix goer)) stp (f' (ix goer)) (p' (ix goer)) (m' (ix goer)) (ix n)) 10 else -1) else -1) := by
  by_cases h1 : f_X8_has cnt goer = 0
  · simp only [if_pos h1]
  · have hg := (has_n h.1 h1).2
    rw [h.2.2.1 _ hg, h.2.2.2.1 _ hg, h.2.2.2.2.1 _ hg, h.2.2.2.2.2.1 _ hg]
theorem q_faithFor {i cnt stp : Nat} {k f p m k' f' p' m' : Nat → Int32} (h : RN i cnt stp k f p m k' f' p' m') (laws fogs arms : Nat → Int32) (goer n : Int32) : (if f_X8_has cnt goer = 0 then -1 else if f_X10_isOutside n 0 40 = 0 then upR (faiQ laws fogs arms (k (ix goer)) stp (p (ix goer)) (m (ix goer)) (ix n)) 100 0 else -1) = (if f_X8_has cnt goer = 0 then -1 else if f_X10_isOutside n 0 40 = 0 then upR (faiQ laws fogs arms (k' (ix goer)) stp (p' (ix goer)) (m' (ix goer)) (ix n)) 100 0 else -1) := by
  by_cases h1 : f_X8_has cnt goer = 0
  · simp only [if_pos h1]
  · have hg := (has_n h.1 h1).2
    rw [h.2.2.1 _ hg, h.2.2.2.2.1 _ hg, h.2.2.2.2.2.1 _ hg]
theorem q_kindFor {i cnt stp : Nat} {k f p m k' f' p' m' : Nat → Int32} (h : RN i cnt stp k f p m k' f' p' m') (laws fogs arms : Nat → Int32) (goer : Int32) : (if f_X8_has cnt goer = 0 then -1 else (knB (snV laws fogs arms stp (f (ix goer)) (p (ix goer)) (m (ix goer))) 5).1) = (if f_X8_has cnt goer = 0 then -1 else (knB (snV laws fogs arms stp (f' (ix goer)) (p' (ix goer)) (m' (ix goer))) 5).1) := by
  by_cases h1 : f_X8_has cnt goer = 0
  · simp only [if_pos h1]
  · have hg := (has_n h.1 h1).2
    rw [h.2.2.2.1 _ hg, h.2.2.2.2.1 _ hg, h.2.2.2.2.2.1 _ hg]
theorem q_rowRV {i cnt stp : Nat} {k f p m k' f' p' m' : Nat → Int32} (h : RN i cnt stp k f p m k' f' p' m') (laws fogs arms : Nat → Int32) {q : Nat} (hq : q < cnt) : rowRV laws fogs arms k cnt stp f p m q = rowRV laws fogs arms k' cnt stp f' p' m' q := by
  funext j
  have e := rowRV_c (laws := laws) (fogs := fogs) (arms := arms) (st := stp) h.2.2.1 h.2.2.2.1 h.2.2.2.2.1 h.2.2.2.2.2.1 hq (j / 3) (j % 3) (Nat.mod_lt _ (by decide))
  rw [show 3 * (j / 3) + j % 3 = j by omega] at e
  exact e
theorem q_prove {i cnt stp : Nat} {k f p m k' f' p' m' : Nat → Int32} (h : RN i cnt stp k f p m k' f' p' m') (laws fogs arms rows : Nat → Int32) (goer n : Int32) : (if f_X8_has cnt goer = 0 then rows else if f_X10_isOutside n 1 10 = 0 then cpT rows (rowRV laws fogs arms k cnt stp f p m (ix goer)) (3 * ix n) else rows) = (if f_X8_has cnt goer = 0 then rows else if f_X10_isOutside n 1 10 = 0 then cpT rows (rowRV laws fogs arms k' cnt stp f' p' m' (ix goer)) (3 * ix n) else rows) := by
  by_cases h1 : f_X8_has cnt goer = 0
  · simp only [if_pos h1]
  · rw [q_rowRV h laws fogs arms (has_n h.1 h1).2]
theorem q_proveC {rc cnt : Nat} (goer n : Int32) (h : rc ≤ 10) : (if f_X8_has cnt goer = 0 then rc else if f_X10_isOutside n 1 10 = 0 then ix n else rc) ≤ 10 := by
  by_cases h1 : f_X8_has cnt goer = 0
  · rw [if_pos h1]; exact h
  · rw [if_neg h1]
    by_cases h2 : f_X10_isOutside n 1 10 = 0
    · rw [if_pos h2]; exact (out_n1 (M := 1) (N := 10) (by decide) (by decide) h2).2.1
    · rw [if_neg h2]; exact h
theorem ite2_nI (c d : Prop) [Decidable c] [Decidable d] (a b e : Nat) : (if c then nI a else if d then nI b else nI e) = nI (if c then a else if d then b else e) := by
  by_cases h : c
  · rw [if_pos h, if_pos h]
  · rw [if_neg h, if_neg h, ite_nI]
theorem q_judge {i cnt stp : Nat} {k f p m k' f' p' m' : Nat → Int32} (h : RN i cnt stp k f p m k' f' p' m') (laws fogs arms rows : Nat → Int32) (rc : Nat) (goer : Int32) : (if f_X8_has cnt goer = 0 then -1 else jdR rows (rowRV laws fogs arms k cnt stp f p m (ix goer)) (3 * rc) 0) = (if f_X8_has cnt goer = 0 then -1 else jdR rows (rowRV laws fogs arms k' cnt stp f' p' m' (ix goer)) (3 * rc) 0) := by
  by_cases h1 : f_X8_has cnt goer = 0
  · simp only [if_pos h1]
  · rw [q_rowRV h laws fogs arms (has_n h.1 h1).2]
theorem rw_ite {α : Type} {rc : Nat} {x w : Int32} (a b : α) : (if rwI rc x w = 0 then a else b) = (if f_X10_isNoPartOfRow rc x w = 0 then b else a) := by
  unfold rwI
  by_cases h : f_X10_isNoPartOfRow rc x w = 0
  · rw [if_pos h, if_neg (by decide), if_pos h]
  · rw [if_neg h, if_pos rfl, if_neg h]
theorem q_row (rc : Nat) (rows : Nat → Int32) (x what v : Int32) : f_X10_row rc x what rows = f_X11_row rc rows x what ∧ f_X10_alterRow rc x what rows = f_X11_alterRow rc rows x what ∧ f_X10_alterRow_w1 rc x what v rows = f_X11_alterRow_w1 rc rows x what v := by
  unfold f_X10_row f_X11_row f_X10_alterRow f_X11_alterRow f_X10_alterRow_w1 f_X11_alterRow_w1
  simp only [rw_ite, Nat.mul_comm (ix x) 3]
  exact ⟨trivial, trivial, trivial⟩
theorem q_trace (bg : Nat) (bod : Nat → Int32) (x : Int32) : f_X10_trace x bg bod = f_X11_trace bg bod x := by
  unfold f_X10_trace f_X11_trace
  simp only [nO_ite]
theorem q_hope (laws : Nat → Int32) (n part : Int32) : f_X10_hope laws n part = f_X11_hope laws n part := by
  unfold f_X10_hope f_X11_hope
  simp only [nO_ite]
/-- the best set of rests: fewest lifted, the least number among them -/
theorem lf_zero {pv : Nat → Int32} {v : Int32} {cnt : Nat} (hv : ∀ s, pv s ≤ nI cnt) (h : ¬ v ≤ nI cnt) : ∀ k, lfM pv v k = -3
  | 0 => rfl
  | k + 1 => by
    have : pv k < v := Int32.lt_of_le_of_lt (hv k) (Int32.not_le.mp h)
    exact (if_pos this).trans (lf_zero hv h k)
theorem lfI_none {pv : Nat → Int32} {v : Int32} {m : Nat} : ∀ f s, (∀ q, s ≤ q → q < s + f → bcF (nI q) = nI m → pv q < v) → lfI pv v m f s = none
  | 0, _, _ => rfl
  | f + 1, s, h => by
    unfold lfI
    have ih := lfI_none (pv := pv) (v := v) (m := m) f (s + 1) (fun q h1 h2 h3 => h q (by omega) (by omega) h3)
    by_cases a : bcF (nI s) = nI m
    · rw [if_pos a, if_pos (h s (by omega) (by omega) a)]; exact ih
    · rw [if_neg a]; exact ih
theorem lfI_some {pv : Nat → Int32} {v : Int32} {m : Nat} : ∀ f s r, s ≤ r → r < s + f → bcF (nI r) = nI m → ¬ pv r < v → (∀ q, s ≤ q → q < r → bcF (nI q) = nI m → pv q < v) → lfI pv v m f s = some r
  | 0, s, r, h1, h2, _, _, _ => absurd h2 (by omega)
  | f + 1, s, r, h1, h2, h3, h4, h5 => by
    unfold lfI
    by_cases e : s = r
    · subst e; rw [if_pos h3, if_neg h4]
    · have ih := lfI_some (pv := pv) (v := v) (m := m) f (s + 1) r (by omega) (by omega) h3 h4 (fun q a b c => h5 q (by omega) b c)
      by_cases a : bcF (nI s) = nI m
      · rw [if_pos a, if_pos (h5 s (by omega) (by omega) a)]; exact ih
      · rw [if_neg a]; exact ih
theorem lfO_none {pv : Nat → Int32} {v : Int32} (h : ∀ q, q < 64 → pv q < v) : ∀ f m, lfO pv v f m = -3
  | 0, _ => rfl
  | f + 1, m => by
    unfold lfO
    rw [lfI_none 64 0 (fun q _ h2 _ => h q (by omega)), lfO_none h f (m + 1)]; rfl
theorem lfO_some {pv : Nat → Int32} {v : Int32} {r b : Nat} (hr : r < 64) (hb : bcF (nI r) = nI b) (hv : ¬ pv r < v) (h1 : ∀ q, q < 64 → ∀ c, bcF (nI q) = nI c → c < b → pv q < v) (h2 : ∀ q, q < r → bcF (nI q) = nI b → pv q < v) : ∀ f m, m ≤ b → b < m + f → lfO pv v f m = nI r
  | 0, m, a, c => absurd c (by omega)
  | f + 1, m, a, c => by
    unfold lfO
    by_cases e : m = b
    · subst e
      rw [lfI_some 64 0 r (by omega) (by omega) hb hv (fun q _ d g => h2 q d g)]; rfl
    · rw [lfI_none 64 0 (fun q _ d g => h1 q (by omega) m g (by omega)), lfO_some hr hb hv h1 h2 f (m + 1) (by omega) (by omega)]; rfl
theorem bc_n : ∀ s, s < 64 → ∃ c, c ≤ 6 ∧ bcF (nI s) = nI c := by
  have h : ∀ s, s < 64 → (List.range 7).any (fun c => decide (bcF (nI s) = nI c)) = true := by decide +kernel
  intro s hs
  have := List.any_eq_true.mp (h s hs)
  obtain ⟨c, hc, e⟩ := this
  exact ⟨c, by have := List.mem_range.mp hc; omega, of_decide_eq_true e⟩
/-- what the model's search holds behind k sets -/
theorem lfM_inv {pv : Nat → Int32} {v : Int32} : ∀ k, k ≤ 64 → (lfM pv v k = -3 ∧ ∀ q, q < k → pv q < v) ∨ (∃ r b, r < k ∧ lfM pv v k = nI r ∧ bcF (nI r) = nI b ∧ b ≤ 6 ∧ ¬ pv r < v ∧ (∀ q, q < k → ∀ c, bcF (nI q) = nI c → c ≤ 6 → c < b → pv q < v) ∧ ∀ q, q < r → bcF (nI q) = nI b → pv q < v)
  | 0, _ => Or.inl ⟨rfl, fun q h => absurd h (by omega)⟩
  | k + 1, hk => by
    have e : lfM pv v (k + 1) = if pv k < v then lfM pv v k else if lfM pv v k < 0 then nI k else if bcF (lfM pv v k) ≤ bcF (nI k) then lfM pv v k else nI k := rfl
    obtain ⟨c, hc, ec⟩ := bc_n k (by omega)
    have inj : ∀ {a b : Nat}, a ≤ 6 → b ≤ 6 → nI a = nI b → a = b := fun ha hb q => (nI_eq (by omega) (by omega)).mp q
    by_cases hp : pv k < v
    · rw [e, if_pos hp]
      rcases lfM_inv k (by omega) with ⟨a, b⟩ | ⟨r, b, h1, h2, h3, h4, h5, h6, h7⟩
      · exact Or.inl ⟨a, fun q hq => by by_cases z : q = k; rw [z]; exact hp; exact b q (by omega)⟩
      · exact Or.inr ⟨r, b, by omega, h2, h3, h4, h5, fun q hq c' e1 e2 e3 => by by_cases z : q = k; rw [z]; exact hp; exact h6 q (by omega) c' e1 e2 e3, h7⟩
    · rw [e, if_neg hp]
      rcases lfM_inv k (by omega) with ⟨a, b⟩ | ⟨r, b, h1, h2, h3, h4, h5, h6, h7⟩
      · rw [a, if_pos (by decide)]
        exact Or.inr ⟨k, c, by omega, rfl, ec, hc, hp, fun q hq c' e1 e2 e3 => by by_cases z : q = k; (rw [z, ec] at e1; have := inj hc e2 e1; omega); exact b q (by omega), fun q hq _ => b q hq⟩
      · rw [h2, if_neg (nI_pos (by omega)), h3, ec]
        by_cases hle : b ≤ c
        · rw [if_pos (nI_le hle (by omega))]
          exact Or.inr ⟨r, b, by omega, rfl, h3, h4, h5, fun q hq c' e1 e2 e3 => by by_cases z : q = k; (rw [z, ec] at e1; have := inj hc e2 e1; omega); exact h6 q (by omega) c' e1 e2 e3, h7⟩
        · rw [if_neg (fun z => hle ((nI_leI (by omega) (by omega)).mp z))]
          exact Or.inr ⟨k, c, by omega, rfl, ec, hc, hp, fun q hq c' e1 e2 e3 => by by_cases z : q = k; (rw [z, ec] at e1; have := inj hc e2 e1; omega); exact h6 q (by omega) c' e1 e2 (by omega), fun q hq e1 => h6 q hq c e1 hc (by omega)⟩
theorem lf_eq (pv : Nat → Int32) (v : Int32) : lfO pv v 7 0 = lfM pv v 64 := by
  rcases lfM_inv (pv := pv) (v := v) 64 (Nat.le_refl _) with ⟨a, b⟩ | ⟨r, b, h1, h2, h3, h4, h5, h6, h7⟩
  · rw [a]; exact lfO_none b 7 0
  · rw [h2]
    refine lfO_some h1 h3 h5 (fun q hq c e1 e2 => ?_) h7 7 0 (by omega) (by omega)
    obtain ⟨c', hc', e'⟩ := bc_n q hq
    exact h6 q hq c' e' hc' (by rw [e'] at e1; have := (nI_eq (a := c') (b := c) (by omega) (by omega)).mp e1; omega)
theorem one_le (q : Nat → Int32) : ∀ n, n ≤ 8 → ∃ c, c ≤ n ∧ oneTo q n = nI c
  | 0, _ => ⟨0, Nat.le_refl _, rfl⟩
  | n + 1, h => by
    obtain ⟨c, hc, e⟩ := one_le q n (by omega)
    by_cases z : q n = 0
    · exact ⟨c, by omega, (if_pos z).trans e⟩
    · exact ⟨c + 1, by omega, (if_neg z).trans (by rw [e]; exact nI_1 c)⟩
theorem q_lifted {i cnt stp : Nat} {k f p m k' f' p' m' : Nat → Int32} (h : RN i cnt stp k f p m k' f' p' m') (laws fogs : Nat → Int32) (n v : Int32) : (if f_X10_isOutside n 0 40 = 0 then (if f_X10_isOutside v 0 8 = 0 then (if v ≤ nI cnt then lfO (lifV laws fogs stp (ix n) k f p m cnt) v 7 0 else -3) else -1) else -1) = (if f_X10_isOutside n 0 40 = 0 then (if f_X10_isOutside v 0 8 = 0 then lfM (lifV laws fogs stp (ix n) k' f' p' m' cnt) v 64 else -1) else -1) := by
  rw [q_lifV h, lf_eq]
  by_cases hv : v ≤ nI cnt
  · simp only [if_pos hv]
  · simp only [if_neg hv]
    rw [lf_zero (cnt := cnt) (fun s => ?_) hv 64]
    unfold lifV
    obtain ⟨c, hc, e⟩ := one_le (thrN laws fogs (lifA s) stp (ix n) k' f' p' m') cnt h.1
    rw [e]; exact nI_le hc (by have := h.1; omega)
