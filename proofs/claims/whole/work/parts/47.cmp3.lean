/-! the pool of rows: address, address of its values, sort, length, values -/
abbrev PE : Type := Nat × Nat × Int32 × Nat × (Nat → Int32)
def plW (g : GG) : List PE → va_W
  | [] => []
  | e :: r => cob e.1 3 [.int e.2.2.1, .ref e.2.1] :: cin g e.2.1 e.2.2.2.1 e.2.2.2.2 :: plW g r
theorem plW_app (g : GG) : ∀ a b : List PE, plW g (a ++ b) = plW g a ++ plW g b
  | [], _ => rfl
  | e :: a, b => by show _ :: _ :: plW g (a ++ b) = _; rw [plW_app g a b]; rfl
/-- the sheets -/
def RS (pl : List PE) (sht : Nat → Option Nat) (srt szs its : Nat → Int32) : Prop :=
  (∀ q, 4 ≤ q → sht q = none) ∧ (∀ q, szs q = nI (ix (szs q)) ∧ ix (szs q) ≤ 40) ∧ (∀ q r a, sht q = some a → sht r = some a → q = r) ∧
  ∀ q, q < 4 → (sht q = none ∧ srt q < 0) ∨ (∃ e, e ∈ pl ∧ sht q = some e.1 ∧ srt q = e.2.2.1 ∧ (0 ≤ e.2.2.1 ∧ e.2.2.1 ≤ 3) ∧ szs q = nI e.2.2.2.1 ∧ e.2.2.2.1 ≤ 40 ∧ ∀ j, j < e.2.2.2.1 → its (40 * q + j) = e.2.2.2.2 j)
/-- the shelves -/
def RH (pl : List PE) (shh shg : Nat → Int32) (shr : Nat → Option Nat) (hds hdo : Nat → Int32) : Prop :=
  (∀ q, 4 ≤ q → shr q = none) ∧ ∀ q, q < 4 → (shh q = 0 ∧ hds q = 0 ∧ hdo q = shg q ∧ shr q = none) ∨ (¬ shh q = 0 ∧ hds q = -1 ∧ shr q = none) ∨ (¬ shh q = 0 ∧ ∃ e, e ∈ pl ∧ shr q = some e.1 ∧ (0 ≤ e.2.2.1 ∧ e.2.2.1 ≤ 3) ∧ hds q = 10 + e.2.2.1 ∧ hdo q = nI e.2.2.2.1 ∧ e.2.2.2.1 ≤ 40)
theorem RS.get {pl : List PE} {sht : Nat → Option Nat} {srt szs its : Nat → Int32} (h : RS pl sht srt szs its) {q a : Nat} (hq : sht q = some a) : q < 4 ∧ ∃ e, e ∈ pl ∧ a = e.1 ∧ srt q = e.2.2.1 ∧ (0 ≤ e.2.2.1 ∧ e.2.2.1 ≤ 3) ∧ szs q = nI e.2.2.2.1 ∧ e.2.2.2.1 ≤ 40 ∧ ∀ j, j < e.2.2.2.1 → its (40 * q + j) = e.2.2.2.2 j := by
  have h4 : q < 4 := Nat.not_le.mp (fun z => by rw [h.1 q z] at hq; cases hq)
  refine ⟨h4, ?_⟩
  rcases h.2.2.2 q h4 with ⟨a1, -⟩ | ⟨e, b0, b1, b2⟩
  · rw [a1] at hq; cases hq
  · exact ⟨e, b0, Option.some.inj (hq.symm.trans b1), b2⟩
theorem RS.no {pl : List PE} {sht : Nat → Option Nat} {srt szs its : Nat → Int32} (h : RS pl sht srt szs its) {q : Nat} (hq : sht q = none) : q < 4 → srt q < 0 := by
  intro h4
  rcases h.2.2.2 q h4 with ⟨-, a1⟩ | ⟨e, b0, b1, b2⟩
  · exact a1
  · rw [b1] at hq; cases hq
theorem sh4 {x : Int32} (h : f_X10_isOutside x 0 3 = 0) : ix x < 4 := by have := (out_n (N := 3) (by decide) h).2; omega
theorem n0 {x : Int32} (h : x < 0) : ¬ 0 ≤ x := fun q => absurd (Int32.lt_of_le_of_lt q h) (by decide)
theorem q_item_n {srt its : Nat → Int32} {sheet : Int32} (hs : ix sheet < 4 → srt (ix sheet) < 0) (sort i_ : Int32) (isz : Nat) : f_X10_item_n sheet sort = f_X11_item srt its sheet sort i_ isz := by
  unfold f_X10_item_n f_X11_item
  simp only [nO_ite]
  by_cases h : f_X10_isOutside sheet 0 3 = 0
  · simp only [if_pos h, if_neg (n0 (hs (sh4 h)))]
  · simp only [if_neg h]
theorem q_item_s {srt its f : Nat → Int32} {sheet so : Int32} {n : Nat} (hs : srt (ix sheet) = so) (h0 : 0 ≤ so) (h40 : n ≤ 40) (hi : ∀ j, j < n → its (40 * ix sheet + j) = f j) (sort i_ : Int32) : f_X10_item sheet sort i_ so n f = f_X11_item srt its sheet sort i_ n := by
  unfold f_X10_item f_X11_item
  simp only [nO_ite, hs, if_pos h0]
  by_cases h : f_X10_isOutside i_ 0 (nI n - 1) = 0
  · simp only [if_pos h, hi _ (out_m1 h40 h).2]
  · simp only [if_neg h]
theorem q_put_n {srt its : Nat → Int32} {sheet : Int32} (hs : ix sheet < 4 → srt (ix sheet) < 0) (i_ v : Int32) (isz : Nat) : f_X10_put_n sheet = f_X11_put srt sheet i_ isz ∧ f_X11_put_w1 srt its sheet i_ v isz = its := by
  unfold f_X10_put_n f_X11_put f_X11_put_w1
  simp only [nO_ite]
  by_cases h : f_X10_isOutside sheet 0 3 = 0
  · simp only [if_pos h, if_neg (n0 (hs (sh4 h)))]; exact ⟨trivial, trivial⟩
  · simp only [if_neg h]; exact ⟨trivial, trivial⟩
theorem q_put_s {srt : Nat → Int32} {sheet so : Int32} {n : Nat} (hs : srt (ix sheet) = so) (h0 : 0 ≤ so) (i_ : Int32) : f_X10_put sheet i_ n = f_X11_put srt sheet i_ n := by
  unfold f_X10_put f_X11_put
  simp only [nO_ite, hs, if_pos h0]
theorem put_its {srt its f : Nat → Int32} {sheet so : Int32} {n : Nat} (hs : srt (ix sheet) = so) (h0 : 0 ≤ so) (h40 : n ≤ 40) (i_ v : Int32) : (f_X10_put_w1 sheet i_ v so n f = f ∧ f_X11_put_w1 srt its sheet i_ v n = its) ∨ (ix i_ < n ∧ f_X10_put_w1 sheet i_ v so n f = upd f (ix i_) (f_X3_narrowed so v) ∧ f_X11_put_w1 srt its sheet i_ v n = upd its (40 * ix sheet + ix i_) (f_X3_narrowed so v)) := by
  unfold f_X10_put_w1 f_X11_put_w1 f_X3_narrowed
  simp only [nO_ite, hs, if_pos h0]
  by_cases h : f_X10_isOutside sheet 0 3 = 0
  · simp only [if_pos h]
    by_cases h2 : f_X10_isOutside i_ 0 (nI n - 1) = 0
    · simp only [if_pos h2]
      refine Or.inr ⟨(out_m1 h40 h2).2, trivial, ?_⟩
      by_cases a : so = 0
      · simp only [if_pos a]
      · simp only [if_neg a]
        by_cases b : so = 1
        · simp only [if_pos b]
        · simp only [if_neg b]
    · simp only [if_neg h2]; exact Or.inl ⟨trivial, trivial⟩
  · simp only [if_neg h]; exact Or.inl ⟨trivial, trivial⟩
/-- a row's values changed, in the pool and at its sheet -/
theorem RS.put {l1 l2 : List PE} {e : PE} {sht : Nat → Option Nat} {srt szs its : Nat → Int32} (h : RS (l1 ++ e :: l2) sht srt szs its) {q : Nat} (h4 : q < 4) (hq : sht q = some e.1) (hsr : srt q = e.2.2.1) (hso : 0 ≤ e.2.2.1 ∧ e.2.2.1 ≤ 3) (hsz : szs q = nI e.2.2.2.1) (h40 : e.2.2.2.1 ≤ 40) (f' its' : Nat → Int32) (h1 : ∀ j, j < e.2.2.2.1 → its' (40 * q + j) = f' j) (h2 : ∀ r j, r < 4 → r ≠ q → j < 40 → its' (40 * r + j) = its (40 * r + j)) : RS ((e.1, e.2.1, e.2.2.1, e.2.2.2.1, f') :: (l1 ++ l2)) sht srt szs its' := by
  refine ⟨h.1, h.2.1, h.2.2.1, fun r hr => ?_⟩
  by_cases c : r = q
  · subst c
    exact Or.inr ⟨_, List.mem_cons_self, hq, hsr, hso, hsz, h40, h1⟩
  · rcases h.2.2.2 r hr with a | ⟨e2, b0, b1, b2, b3, b4, b5, b6⟩
    · exact Or.inl a
    · refine Or.inr ⟨e2, ?_, b1, b2, b3, b4, b5, fun j hj => by rw [h2 r j hr c (by omega)]; exact b6 j hj⟩
      have hm := b0
      rw [List.mem_append, List.mem_cons] at hm
      rcases hm with m | m | m
      · exact List.mem_cons_of_mem _ (List.mem_append_left _ m)
      · exfalso; rw [m] at b1; exact c (h.2.2.1 r q _ b1 hq)
      · exact List.mem_cons_of_mem _ (List.mem_append_right _ m)
theorem RH.put {l1 l2 : List PE} {e : PE} {shh shg : Nat → Int32} {shr : Nat → Option Nat} {hds hdo : Nat → Int32} (h : RH (l1 ++ e :: l2) shh shg shr hds hdo) (f' : Nat → Int32) : RH ((e.1, e.2.1, e.2.2.1, e.2.2.2.1, f') :: (l1 ++ l2)) shh shg shr hds hdo := by
  refine ⟨h.1, fun q hq => ?_⟩
  rcases h.2 q hq with a | a | ⟨a, e2, b0, b1, b2, b3, b4, b5⟩
  · exact Or.inl a
  · exact Or.inr (Or.inl a)
  · have hm := b0
    rw [List.mem_append, List.mem_cons] at hm
    rcases hm with m | m | m
    · exact Or.inr (Or.inr ⟨a, e2, List.mem_cons_of_mem _ (List.mem_append_left _ m), b1, b2, b3, b4, b5⟩)
    · subst m
      exact Or.inr (Or.inr ⟨a, _, List.mem_cons_self, b1, b2, b3, b4, b5⟩)
    · exact Or.inr (Or.inr ⟨a, e2, List.mem_cons_of_mem _ (List.mem_append_right _ m), b1, b2, b3, b4, b5⟩)
theorem mindF_out (fs ivs : Nat → Int32) (g0 i0 : Nat) : ∀ k j, (j < g0 ∨ g0 + k ≤ j) → mindF fs ivs g0 i0 k j = fs j
  | 0, _, _ => rfl
  | k + 1, j, h => by
    show upd (mindF fs ivs g0 i0 k) (g0 + k) _ j = _
    rw [pk_un (by omega), mindF_out fs ivs g0 i0 k j (by omega)]
theorem mindF_ag {c : Nat} {f f' v v' : Nat → Int32} {g0 i0 : Nat} (h : ag c f f') : ∀ n, (∀ j, j < n → v (i0 + j) = v' (i0 + j)) → ag c (mindF f v g0 i0 n) (mindF f' v' g0 i0 n)
  | 0, _ => h
  | n + 1, hv => by
    have ih := mindF_ag (g0 := g0) h n (fun j hj => hv j (by omega))
    intro j hj
    show upd (mindF f v g0 i0 n) (g0 + n) (hF (v (i0 + n))) j = upd (mindF f' v' g0 i0 n) (g0 + n) (hF (v' (i0 + n))) j
    by_cases e : j = g0 + n
    · rw [e, pk_us, pk_us, hv n (by omega)]
    · rw [pk_un e, pk_un e]; exact ih j hj
theorem nle_iff {cnt g n : Nat} (h : g < cnt) (hc : cnt ≤ 8) (hn : n ≤ 8) : (nI n ≤ nI (cnt - g)) ↔ (nI (g + n) ≤ nI cnt) := by
  rw [nI_leI (by omega) (by omega), nI_leI (by omega) (by omega)]; omega
theorem q_minds_n {i cnt stp : Nat} {k f p m k' f' p' m' srt its : Nat → Int32} (h : RN i cnt stp k f p m k' f' p' m') {sheet : Int32} (hs : ix sheet < 4 → srt (ix sheet) < 0) (i_ goer n : Int32) (isz : Nat) : f_X10_minds_n cnt sheet goer n = f_X11_minds cnt srt sheet i_ goer n isz ∧ f_X11_minds_w1 cnt f' srt its sheet i_ goer n isz = f' := by
  unfold f_X10_minds_n f_X11_minds f_X11_minds_w1
  simp only [nO_ite]
  by_cases h1 : f_X10_isOutside sheet 0 3 = 0
  · simp only [if_pos h1, if_neg (n0 (hs (sh4 h1)))]
    by_cases h2 : f_X8_has cnt goer = 0
    · simp only [if_pos h2]; exact ⟨trivial, trivial⟩
    · simp only [if_neg h2]
      by_cases h3 : f_X10_isOutside n 0 8 = 0
      · simp only [if_pos h3, nle_iff (has_n h.1 h2).2 h.1 (out_n (N := 8) (by decide) h3).2]
        exact ⟨trivial, by split <;> rfl⟩
      · simp only [if_neg h3]; exact ⟨trivial, trivial⟩
  · simp only [if_neg h1]; exact ⟨trivial, trivial⟩
theorem q_minds_s {i cnt stp : Nat} {k f p m k' f' p' m' srt its v : Nat → Int32} (h : RN i cnt stp k f p m k' f' p' m') {sheet so : Int32} {isz : Nat} (hs : srt (ix sheet) = so) (h0 : 0 ≤ so) (h40 : isz ≤ 40) (hi : ∀ j, j < isz → its (40 * ix sheet + j) = v j) (i_ goer n : Int32) : f_X10_minds cnt sheet i_ goer n so isz = f_X11_minds cnt srt sheet i_ goer n isz ∧ RN i cnt stp k (f_X10_minds_w1 f cnt sheet i_ goer n so isz v) p m k' (f_X11_minds_w1 cnt f' srt its sheet i_ goer n isz) p' m' := by
  unfold f_X10_minds f_X11_minds f_X10_minds_w1 f_X11_minds_w1
  simp only [nO_ite, hs, if_pos h0]
  by_cases h1 : f_X10_isOutside sheet 0 3 = 0
  · simp only [if_pos h1]
    by_cases h2 : f_X8_has cnt goer = 0
    · simp only [if_pos h2]; exact ⟨trivial, h⟩
    · simp only [if_neg h2]
      by_cases h3 : f_X10_isOutside n 0 8 = 0
      · simp only [if_pos h3, nle_iff (has_n h.1 h2).2 h.1 (out_n (N := 8) (by decide) h3).2]
        by_cases h4 : nI (ix goer + ix n) ≤ nI cnt
        · simp only [if_pos h4]
          by_cases h5 : so = 0
          · simp only [if_pos h5]
            by_cases h6 : f_X10_isOutside i_ 0 (nI isz) = 0
            · simp only [if_pos h6]
              by_cases h7 : nI (ix n) ≤ nI (isz - ix i_)
              · simp only [if_pos h7]
                have hn8 := (out_n (N := 8) (by decide) h3).2
                have hni := (nI_leI (by omega) (by omega)).mp h7
                exact ⟨trivial, h.1, h.2.1, h.2.2.1, mindF_ag h.2.2.2.1 _ (fun j hj => (hi _ (by omega)).symm), h.2.2.2.2⟩
              · simp only [if_neg h7]; exact ⟨trivial, h⟩
            · simp only [if_neg h6]; exact ⟨trivial, h⟩
          · simp only [if_neg h5]; exact ⟨trivial, h⟩
        · simp only [if_neg h4]; exact ⟨trivial, h⟩
      · simp only [if_neg h3]; exact ⟨trivial, h⟩
  · simp only [if_neg h1]; exact ⟨trivial, h⟩
theorem gbR_c {t t' pl : Nat → Int32} : ∀ n k, (∀ j, k ≤ j → j < k + n → t j = t' j) → gbR t pl n k = gbR t' pl n k
  | 0, _, _ => rfl
  | n + 1, k, h => by
    unfold gbR
    rw [h k (by omega) (by omega), gbR_c n (k + 1) (fun j a b => h j (by omega) (by omega))]
theorem q_fits_n {cnt : Nat} {srt : Nat → Int32} {sheet : Int32} (hs : ix sheet < 4 → srt (ix sheet) < 0) (goer what a b : Int32) : (if f_X10_isOutside sheet 0 3 = 0 then (if f_X8_has cnt goer = 0 then -1 else if f_X10_isOutside what 0 1 = 0 then -11 else -1) else -1) = (if f_X10_isOutside sheet 0 3 = 0 then (if f_X8_has cnt goer = 0 then -1 else if f_X10_isOutside what 0 1 = 0 then (if 0 ≤ srt (ix sheet) then (if what = 0 then a else b) else -11) else -1) else -1) := by
  by_cases h1 : f_X10_isOutside sheet 0 3 = 0
  · simp only [if_pos h1, if_neg (n0 (hs (sh4 h1)))]
  · simp only [if_neg h1]
theorem q_fitQ {i cnt stp : Nat} {k f p m k' f' p' m' its v : Nat → Int32} (h : RN i cnt stp k f p m k' f' p' m') (laws fogs arms : Nat → Int32) {isz b q : Nat} (hq : q < cnt) (hi : ∀ j, j < isz → its (b + j) = v j) : fitQ laws fogs arms (k q) stp (p q) (m q) v isz = fitQ laws fogs arms (k' q) stp (p' q) (m' q) (fun j => its (b + j)) isz := by
  funext a
  unfold fitQ
  rw [h.2.2.1 _ hq, h.2.2.2.2.1 _ hq, h.2.2.2.2.2.1 _ hq]
  exact gbR_c _ _ (fun j _ hj => (hi j (by omega)).symm)
theorem q_shelfV {pl : List PE} {sht : Nat → Option Nat} {srt szs its : Nat → Int32} (h : RS pl sht srt szs its) (cnt : Nat) (shelf what n : Int32) : f_X10_shelf_n cnt shelf what n = f_X11_shelf cnt shelf what n ∧ f_X10_shelf cnt shelf what n = f_X11_shelf cnt shelf what n := by
  unfold f_X10_shelf_n f_X10_shelf f_X11_shelf
  simp only [nO_ite]
  exact ⟨trivial, trivial⟩
theorem va_us {f : Nat → Option Nat} {k : Nat} {x : Option Nat} : va_up f k x k = x := by simp [va_up]
theorem va_un {f : Nat → Option Nat} {k j : Nat} {x : Option Nat} (h : j ≠ k) : va_up f k x j = f j := by simp [va_up, h]
/-- a shelf laid anew -/
theorem RH.set {pl : List PE} {shh shg : Nat → Int32} {shr : Nat → Option Nat} {hds hdo : Nat → Int32} (h : RH pl shh shg shr hds hdo) {q : Nat} (h4 : q < 4) {a b : Int32} {r : Option Nat} {c d : Int32} (hn : (a = 0 ∧ c = 0 ∧ d = b ∧ r = none) ∨ (¬ a = 0 ∧ c = -1 ∧ r = none) ∨ (¬ a = 0 ∧ ∃ e, e ∈ pl ∧ r = some e.1 ∧ (0 ≤ e.2.2.1 ∧ e.2.2.1 ≤ 3) ∧ c = 10 + e.2.2.1 ∧ d = nI e.2.2.2.1 ∧ e.2.2.2.1 ≤ 40)) : RH pl (upd shh q a) (upd shg q b) (va_up shr q r) (upd hds q c) (upd hdo q d) := by
  refine ⟨fun x hx => by rw [va_un (by omega)]; exact h.1 x hx, fun x hx => ?_⟩
  by_cases e : x = q
  · subst e; rw [pk_us, pk_us, pk_us, pk_us, va_us]; exact hn
  · rw [pk_un e, pk_un e, pk_un e, pk_un e, va_un e]; exact h.2 x hx
theorem RH_shelf_n {pl : List PE} {sht shr : Nat → Option Nat} {srt szs its shh shg hds hdo : Nat → Int32} {cnt : Nat} (hS : RS pl sht srt szs its) (h : RH pl shh shg shr hds hdo) (shelf what : Int32) {n : Int32} (hn : sht (ix n) = none) (hc : cnt ≤ 8) : RH pl (f_X10_shelf_n_w1 cnt shelf what n shh) (f_X10_shelf_n_w2 cnt shelf what n shg) (f_X10_shelf_n_w3 cnt shelf what n shr) (f_X11_shelf_w1 cnt srt hds shelf what n) (f_X11_shelf_w2 cnt szs hdo shelf what n) := by
  unfold f_X10_shelf_n_w1 f_X10_shelf_n_w2 f_X10_shelf_n_w3 f_X11_shelf_w1 f_X11_shelf_w2
  simp only [nO_ite]
  by_cases h1 : f_X10_isOutside shelf 0 3 = 0
  · simp only [if_pos h1]
    have h4 := sh4 h1
    by_cases h2 : f_X10_isOutside what 0 2 = 0
    · simp only [if_pos h2]
      by_cases h3 : what = 0
      · simp only [if_pos h3, if_neg (show ¬ what = 1 by rw [h3]; decide)]
        by_cases h5 : f_X8_has cnt n = 0
        · simp only [if_pos h5]; exact h
        · simp only [if_neg h5]; exact h.set h4 (Or.inl ⟨h3, rfl, rfl, rfl⟩)
      · simp only [if_neg h3]
        by_cases h6 : what = 1
        · simp only [if_pos h6]
          by_cases h7 : f_X10_isOutside n 0 3 = 0
          · simp only [if_pos h7, if_pos (hS.no hn (sh4 h7))]
            exact h.set h4 (Or.inr (Or.inl ⟨h3, rfl, rfl⟩))
          · simp only [if_neg h7]; exact h
        · simp only [if_neg h6]; exact h.set h4 (Or.inr (Or.inl ⟨h3, rfl, rfl⟩))
    · simp only [if_neg h2]; exact h
  · simp only [if_neg h1]; exact h
theorem RH_shelf_s {pl : List PE} {sht shr : Nat → Option Nat} {srt szs its shh shg hds hdo : Nat → Int32} {cnt : Nat} (hS : RS pl sht srt szs its) (h : RH pl shh shg shr hds hdo) (shelf what : Int32) {n : Int32} {e : PE} (he : e ∈ pl) (hsr : srt (ix n) = e.2.2.1) (hso : 0 ≤ e.2.2.1 ∧ e.2.2.1 ≤ 3) (hsz : szs (ix n) = nI e.2.2.2.1) (h40 : e.2.2.2.1 ≤ 40) : RH pl (f_X10_shelf_w1 cnt shelf what n shh) (f_X10_shelf_w2 cnt shelf what n shg) (f_X10_shelf_w3 cnt shelf what n shr e.1) (f_X11_shelf_w1 cnt srt hds shelf what n) (f_X11_shelf_w2 cnt szs hdo shelf what n) := by
  unfold f_X10_shelf_w1 f_X10_shelf_w2 f_X10_shelf_w3 f_X11_shelf_w1 f_X11_shelf_w2
  simp only [nO_ite, hsr, hsz]
  by_cases h1 : f_X10_isOutside shelf 0 3 = 0
  · simp only [if_pos h1]
    have h4 := sh4 h1
    by_cases h2 : f_X10_isOutside what 0 2 = 0
    · simp only [if_pos h2]
      by_cases h3 : what = 0
      · simp only [if_pos h3, if_neg (show ¬ what = 1 by rw [h3]; decide)]
        by_cases h5 : f_X8_has cnt n = 0
        · simp only [if_pos h5]; exact h
        · simp only [if_neg h5]; exact h.set h4 (Or.inl ⟨h3, rfl, rfl, rfl⟩)
      · simp only [if_neg h3]
        by_cases h6 : what = 1
        · simp only [if_pos h6]
          by_cases h7 : f_X10_isOutside n 0 3 = 0
          · simp only [if_pos h7, if_neg (Int32.not_lt.mpr hso.1)]
            exact h.set h4 (Or.inr (Or.inr ⟨h3, e, he, rfl, hso, rfl, rfl, h40⟩))
          · simp only [if_neg h7]; exact h
        · simp only [if_neg h6]; exact h.set h4 (Or.inr (Or.inl ⟨h3, rfl, rfl⟩))
    · simp only [if_neg h2]; exact h
  · simp only [if_neg h1]; exact h
/-- which shelf holds a goer -/
theorem ho_eq {pl : List PE} {shh shg : Nat → Int32} {shr : Nat → Option Nat} {hds hdo : Nat → Int32} (h : RH pl shh shg shr hds hdo) (cnt : Nat) {q : Nat} (h4 : q < 4) : (¬ f_X10_holdsGoer cnt shh shg q = 0 ∧ hoF cnt hds hdo q = 0 ∧ hdo q = shg q) ∨ (f_X10_holdsGoer cnt shh shg q = 0 ∧ ((hoF cnt hds hdo q = -1 ∧ shr q = none) ∨ ∃ e, e ∈ pl ∧ shr q = some e.1 ∧ (0 ≤ e.2.2.1 ∧ e.2.2.1 ≤ 3) ∧ hoF cnt hds hdo q = 10 + e.2.2.1 ∧ hdo q = nI e.2.2.2.1 ∧ e.2.2.2.1 ≤ 40)) := by
  unfold f_X10_holdsGoer hoF
  rcases h.2 q h4 with ⟨a, b, c, d⟩ | ⟨a, b, c⟩ | ⟨a, e, b0, b1, b2, b3, b4, b5⟩
  · rw [if_pos a, if_pos b, c]
    by_cases hh : f_X8_has cnt (shg q) = 0
    · rw [if_pos hh, if_pos hh]; exact Or.inr ⟨rfl, Or.inl ⟨rfl, d⟩⟩
    · rw [if_neg hh, if_neg hh]; exact Or.inl ⟨by decide, b, rfl⟩
  · rw [if_neg a, b, if_neg (by decide)]; exact Or.inr ⟨rfl, Or.inl ⟨rfl, c⟩⟩
  · have hne : ¬ hds q = 0 := by
      rw [b3]; intro z
      have z1 := congrArg Int32.toInt z
      have l1 := i_le.mp b2.1
      have l2 := i_le.mp b2.2
      rw [i_add (by rw [show (10 : Int32).toInt = 10 from rfl]; rw [i_0] at l1; omega) (by rw [show (10 : Int32).toInt = 10 from rfl]; rw [show (3 : Int32).toInt = 3 from rfl] at l2; omega), show (10 : Int32).toInt = 10 from rfl, i_0] at z1
      rw [i_0] at l1
      omega
    rw [if_neg a, if_neg hne]
    exact Or.inr ⟨rfl, Or.inr ⟨e, b0, b1, b2, b3, b4, b5⟩⟩
theorem und_eq : ∀ k, k < 6 → ∀ a, a < 6 → ((((tq_taken k) >>> (nI a &&& 31)) &&& 1) = 1 ↔ ¬ f_X11_isUnder (nI k) (nI a) = 0) := by decide +kernel
theorem ten {so : Int32} (h : 0 ≤ so ∧ so ≤ 3) (as_ : Int32) : (0 : Int32) ≤ 10 + so ∧ ¬ (10 + so = 0) ∧ ((10 + so = as_) ↔ so = as_ - 10) := by
  have l1 := i_le.mp h.1
  have l2 := i_le.mp h.2
  rw [i_0] at l1
  rw [show (3 : Int32).toInt = 3 from rfl] at l2
  have e : (10 + so).toInt = 10 + so.toInt := i_add (by rw [show (10 : Int32).toInt = 10 from rfl]; omega) (by rw [show (10 : Int32).toInt = 10 from rfl]; omega)
  refine ⟨i_le.mpr (by rw [e, i_0]; omega), fun z => by have := congrArg Int32.toInt z; rw [e, i_0] at this; omega, ?_, ?_⟩
  · intro z; rw [← z, Int32.add_comm, Int32.add_sub_cancel]
  · intro z; rw [z, Int32.add_comm, Int32.sub_add_cancel]
theorem q_taken_n {pl : List PE} {i cnt stp : Nat} {k f p m k' f' p' m' shh shg hds hdo : Nat → Int32} {shr : Nat → Option Nat} (hN : RN i cnt stp k f p m k' f' p' m') (h : RH pl shh shg shr hds hdo) {shelf : Int32} (hr : shr (ix shelf) = none) (as_ : Int32) : f_X10_taken_n k cnt shelf as_ shh shg = f_X11_taken cnt k' hds hdo shelf as_ := by
  unfold f_X10_taken_n f_X11_taken
  simp only [nO_ite]
  by_cases h1 : f_X10_isOutside shelf 0 3 = 0
  · simp only [if_pos h1]
    rcases ho_eq h cnt (sh4 h1) with ⟨a, b, c⟩ | ⟨a, ⟨b, -⟩ | ⟨e, -, b1, -⟩⟩
    · simp only [if_neg a, b, if_pos (show (0 : Int32) ≤ 0 by decide), if_pos True.intro]
      have hg := holds_ok hN.1 a
      by_cases h2 : f_X10_isOutside as_ 0 5 = 0
      · have ha := out_n (N := 5) (by decide) h2
        simp only [if_pos h2]
        rw [if_neg (show ¬ (10 : Int32) ≤ as_ by rw [ha.1]; exact nI_ge (a := ix as_) (b := 10) (by omega) (by omega)), c, ← hN.2.2.1 _ hg.2]
        have hK := hN.2.2.2.2.2.2.1 _ hg.2
        have hkx : k (ix (shg (ix shelf))) = nI (ix (k (ix (shg (ix shelf))))) ∧ ix (k (ix (shg (ix shelf)))) < 6 := by
          rcases hK with e | e | e | e | e | e <;> rw [e] <;> exact ⟨rfl, by decide⟩
        have hu := und_eq _ hkx.2 (ix as_) (by omega)
        rw [← hkx.1, ← ha.1] at hu
        by_cases hz : f_X11_isUnder (k (ix (shg (ix shelf)))) as_ = 0
        · rw [if_pos hz, if_neg (fun q => hu.mp q hz)]
        · rw [if_neg hz, if_pos (hu.mpr hz)]; exact hg.1.symm
      · simp only [if_neg h2]
        by_cases h3 : f_X10_isOutside as_ 10 13 = 0
        · have ha := out_n1 (M := 10) (N := 13) (by decide) (by decide) h3
          simp only [if_pos h3]
          rw [if_pos (show (10 : Int32) ≤ as_ by rw [ha.1]; exact nI_le (a := 10) (by omega) (by omega))]
        · simp only [if_neg h3]
    · simp only [if_pos a, b, if_neg (show ¬ (0 : Int32) ≤ -1 by decide)]
    · rw [hr] at b1; cases b1
  · simp only [if_neg h1]
    by_cases h2 : f_X10_isOutside as_ 0 5 = 0
    · simp only [if_pos h2]
    · simp only [if_neg h2]
theorem q_taken_s {pl : List PE} {i cnt stp : Nat} {k f p m k' f' p' m' shh shg hds hdo : Nat → Int32} {shr : Nat → Option Nat} (hN : RN i cnt stp k f p m k' f' p' m') (h : RH pl shh shg shr hds hdo) {shelf so : Int32} {n : Nat} (hso : 0 ≤ so ∧ so ≤ 3) (hr : ix shelf < 4 → ¬ shh (ix shelf) = 0 ∧ hds (ix shelf) = 10 + so ∧ hdo (ix shelf) = nI n) (as_ : Int32) : f_X10_taken k cnt shelf as_ shh shg so n = f_X11_taken cnt k' hds hdo shelf as_ := by
  unfold f_X10_taken f_X11_taken
  simp only [nO_ite]
  by_cases h1 : f_X10_isOutside shelf 0 3 = 0
  · simp only [if_pos h1]
    obtain ⟨a, b, c⟩ := hr (sh4 h1)
    obtain ⟨t1, t2, t3⟩ := ten hso as_
    have e1 : f_X10_holdsGoer cnt shh shg (ix shelf) = 0 := if_neg a
    have e2 : hoF cnt hds hdo (ix shelf) = 10 + so := by unfold hoF; rw [b, if_neg t2]
    simp only [e1, if_pos True.intro, e2, if_pos t1, if_neg t2, c]
    by_cases z : so = as_ - 10
    · simp only [if_pos z, if_pos (t3.mpr z)]
    · simp only [if_neg z, if_neg (fun q => z (t3.mp q))]
  · simp only [if_neg h1]
    by_cases h2 : f_X10_isOutside as_ 0 5 = 0
    · simp only [if_pos h2]
    · simp only [if_neg h2]
