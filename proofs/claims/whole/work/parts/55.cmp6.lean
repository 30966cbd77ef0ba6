/-! what the law's own cases want: bytes, sheets made, entries moved -/
theorem isB_8 (w : Int8) : isB w.toInt32 := by
  refine ⟨w.toBitVec.toNat, w.toBitVec.isLt, ?_⟩
  congr 1
  apply Int8.toInt_inj.mp
  rw [Int32.toInt_toInt8, nI_toInt (by have := w.toBitVec.isLt; omega)]
  exact BitVec.toInt_eq_toNat_bmod _
theorem isB_nar (x : Int32) : isB (vp_nar .byte x) := isB_8 x.toInt8
theorem q_feed {tsz : Nat} {byt : Nat → Int32} (hz : tsz ≤ 200) (hB : ∀ j, isB (byt j)) (e8 : Int64) (n : Int32) : (∃ q, q ≤ 200 ∧ f_X10_feed_w1 tsz n = nI q) ∧ ∀ j, isB (f_X10_feed_w2 tsz byt e8 n j) := by
  unfold f_X10_feed_w1 f_X10_feed_w2
  by_cases h : f_X10_isOutside n 1 8 = 0
  · have hn := out_n1 (A := 1) (B := 8) (M := 1) (N := 8) (by decide) (by decide) h
    simp only [if_pos h]
    by_cases h2 : nI (tsz + ix n) ≤ 200
    · refine ⟨⟨tkN tsz (ix n), ?_, rfl⟩, ?_⟩
      · unfold tkN
        rw [if_pos h2]
        exact (nI_leI (a := tsz + ix n) (b := 200) (by omega) (by omega)).mp h2
      · intro j
        rw [if_pos h2]
        unfold tkT
        split
        · exact isB_nar _
        · exact hB j
    · refine ⟨⟨tkN tsz (ix n), ?_, rfl⟩, ?_⟩
      · unfold tkN
        rw [if_neg h2]
        exact hz
      · intro j
        rw [if_neg h2]
        exact hB j
  · simp only [if_neg h]
    exact ⟨⟨tsz, hz, rfl⟩, hB⟩
theorem RS.mono {pl pl' : List PE} {sht : Nat → Option Nat} {srt szs its : Nat → Int32} (h : RS pl sht srt szs its) (hm : ∀ e, e ∈ pl → e ∈ pl') : RS pl' sht srt szs its := by
  refine ⟨h.1, h.2.1, h.2.2.1, fun q hq => ?_⟩
  rcases h.2.2.2 q hq with a | ⟨e, he, b⟩
  · exact Or.inl a
  · exact Or.inr ⟨e, hm e he, b⟩
theorem RH.mono {pl pl' : List PE} {shh shg : Nat → Int32} {shr : Nat → Option Nat} {hds hdo : Nat → Int32} (h : RH pl shh shg shr hds hdo) (hm : ∀ e, e ∈ pl → e ∈ pl') : RH pl' shh shg shr hds hdo := by
  refine ⟨h.1, fun q hq => ?_⟩
  rcases h.2 q hq with a | a | ⟨a, e, he, b⟩
  · exact Or.inl a
  · exact Or.inr (Or.inl a)
  · exact Or.inr (Or.inr ⟨a, e, hm e he, b⟩)
theorem mem_rot {l1 l2 : List PE} {a : PE} : ∀ e, e ∈ l1 ++ a :: l2 → e ∈ a :: (l1 ++ l2) := by
  intro e he
  rcases List.mem_append.mp he with h | h
  · exact List.mem_cons_of_mem _ (List.mem_append_left _ h)
  · rcases List.mem_cons.mp h with h | h
    · rw [h]; exact List.mem_cons_self
    · exact List.mem_cons_of_mem _ (List.mem_append_right _ h)
theorem RH.get {pl : List PE} {shh shg : Nat → Int32} {shr : Nat → Option Nat} {hds hdo : Nat → Int32} (h : RH pl shh shg shr hds hdo) {q a : Nat} (hq : shr q = some a) : ¬ shh q = 0 ∧ ∃ e, e ∈ pl ∧ a = e.1 ∧ (0 ≤ e.2.2.1 ∧ e.2.2.1 ≤ 3) ∧ hds q = 10 + e.2.2.1 ∧ hdo q = nI e.2.2.2.1 ∧ e.2.2.2.1 ≤ 40 := by
  have h4 : q < 4 := Nat.not_le.mp (fun z => by rw [h.1 q z] at hq; cases hq)
  rcases h.2 q h4 with ⟨-, -, -, b⟩ | ⟨-, -, b⟩ | ⟨a1, e, he, b, c⟩
  · rw [b] at hq; cases hq
  · rw [b] at hq; cases hq
  · rw [b] at hq
    exact ⟨a1, e, he, (Option.some.inj hq).symm, c⟩
theorem plW_in (g : GG) : ∀ (pl : List PE) (e : PE), e ∈ pl → e.1 ∈ (plW g pl).map Prod.fst
  | [], e, h => by cases h
  | a :: pl, e, h => by
    rcases List.mem_cons.mp h with rfl | h
    · exact List.mem_cons_self
    · exact List.mem_cons_of_mem _ (List.mem_cons_of_mem _ (plW_in g pl e h))
theorem hv_fresh {g : GG} {A : Nat → Prop} {s : State} {H : Heap} {locs : List Loc} {C : va_W} {e0 : PE} {pl : List PE} (h : hv g A s H locs (C ++ plW g (e0 :: pl))) : ∀ e, e ∈ pl → e.1 ≠ e0.1 := by
  intro e he q
  have h1 := D_nodup.mp h.2.1.1
  rw [List.map_append] at h1
  have h2 := (List.nodup_append.mp h1).2.1
  have h3 := (List.nodup_cons.mp h2).1
  apply h3
  show e0.1 ∈ _
  rw [← q]
  exact List.mem_cons_of_mem _ (plW_in g pl e he)
theorem so_ge {x : Int32} (h : f_X10_isOutside x (-1) 3 = 0) (h1 : ¬ x = -1) : 0 ≤ x ∧ x ≤ 3 := by
  have h2 := out_0 h
  have a := h2.1
  have b := h2.2
  rw [Int32.lt_iff_toInt_lt] at a b
  rw [Int32.le_iff_toInt_le, Int32.le_iff_toInt_le]
  have c : ¬ x.toInt = (-1 : Int32).toInt := fun q => h1 (Int32.toInt_inj.mp q)
  have d1 : (-1 : Int32).toInt = -1 := by decide
  have d3 : (3 : Int32).toInt = 3 := by decide
  have d0 : (0 : Int32).toInt = 0 := by decide
  omega
theorem n40 {n : Int32} (h : n ≤ 40) (h0 : 0 ≤ n) : n = nI (ix n) ∧ ix n ≤ 40 := by
  obtain ⟨j, hj, e⟩ := nI_of2 (M := 40) (n := 40) rfl (Int32.not_lt.mpr h0) h
  have e2 : ix n = j := by rw [e]; exact nI_clamp (by omega)
  rw [e2]
  exact ⟨e, hj⟩
/-- a sheet made -/
theorem q_sheet_m {pl : List PE} {sht : Nat → Option Nat} {srt szs its : Nat → Int32} (h : RS pl sht srt szs its) {sheet sort n : Int32} (hm : f_X10_isOutside sheet 0 3 = 0 ∧ f_X10_isOutside sort (-1) 3 = 0 ∧ ¬ sort = -1 ∧ n ≤ 40 ∧ 0 ≤ n) {ia iv : Nat} (hfr : ∀ e, e ∈ pl → e.1 ≠ ia) :
    1 = f_X11_sheet sheet sort n ∧ RS ((ia, iv, sort, ix n, fun _ => 0) :: pl) (va_up sht (ix sheet) (some ia)) (f_X11_sheet_w1 srt sheet sort n) (f_X11_sheet_w2 szs sheet sort n) (f_X11_sheet_w3 its sheet sort n) := by
  obtain ⟨m1, m2, m3, m4, m5⟩ := hm
  have hs := so_ge m2 m3
  have hq := sh4 m1
  have hn := n40 m4 m5
  have hl : ¬ sort < 0 := Int32.not_lt.mpr hs.1
  unfold f_X11_sheet f_X11_sheet_w1 f_X11_sheet_w2 f_X11_sheet_w3
  simp only [nO_ite, if_pos m1, if_pos m2, if_neg hl, if_pos m4, if_pos m5, if_pos hs.1]
  refine ⟨trivial, fun r hr => ?_, fun r => ?_, fun r t a hr ht => ?_, fun r hr => ?_⟩
  · rw [va_un (by omega)]; exact h.1 r hr
  · by_cases e : r = ix sheet
    · rw [e, pk_us]; exact hn
    · rw [pk_un e]; exact h.2.1 r
  · by_cases e : r = ix sheet
    · by_cases e2 : t = ix sheet
      · rw [e, e2]
      · rw [e, va_us] at hr
        rw [va_un e2] at ht
        cases hr
        obtain ⟨-, x, hx, ex, -⟩ := h.get ht
        exact absurd ex.symm (hfr x hx)
    · by_cases e2 : t = ix sheet
      · rw [e2, va_us] at ht
        rw [va_un e] at hr
        cases ht
        obtain ⟨-, x, hx, ex, -⟩ := h.get hr
        exact absurd ex.symm (hfr x hx)
      · rw [va_un e] at hr
        rw [va_un e2] at ht
        exact h.2.2.1 r t a hr ht
  · by_cases e : r = ix sheet
    · right
      refine ⟨_, List.mem_cons_self, ?_, ?_, hs, ?_, hn.2, ?_⟩
      · rw [e, va_us]
      · rw [e, pk_us]
      · rw [e, pk_us]; exact hn.1
      · intro j hj
        have hj' : j < ix n := hj
        unfold itZ
        rw [e, if_pos ⟨by omega, by have := hn.2; omega⟩]
    · rw [va_un e, pk_un e, pk_un e]
      rcases h.2.2.2 r hr with a | ⟨x, hx, b1, b2, b3, b4, b5, b6⟩
      · exact Or.inl a
      · refine Or.inr ⟨x, List.mem_cons_of_mem _ hx, b1, b2, b3, b4, b5, fun j hj => ?_⟩
        unfold itZ
        rw [if_neg (by omega)]
        exact b6 j hj
theorem q_sheet_n {pl : List PE} {sht : Nat → Option Nat} {srt szs its : Nat → Int32} (h : RS pl sht srt szs its) {sheet sort n : Int32} (hm : ¬ (f_X10_isOutside sheet 0 3 = 0 ∧ f_X10_isOutside sort (-1) 3 = 0 ∧ ¬ sort = -1 ∧ n ≤ 40 ∧ 0 ≤ n)) :
    (if f_X10_isOutside sheet 0 3 = 0 then (if f_X10_isOutside sort (-1) 3 = 0 then (if sort = -1 then 1 else if n ≤ 40 then -14 else -1) else -1) else -1) = f_X11_sheet sheet sort n ∧ RS pl (if f_X10_isOutside sheet 0 3 = 0 then (if f_X10_isOutside sort (-1) 3 = 0 then (if sort = -1 then va_up sht (ix sheet) none else sht) else sht) else sht) (f_X11_sheet_w1 srt sheet sort n) (f_X11_sheet_w2 szs sheet sort n) (f_X11_sheet_w3 its sheet sort n) := by
  unfold f_X11_sheet f_X11_sheet_w1 f_X11_sheet_w2 f_X11_sheet_w3
  simp only [nO_ite]
  by_cases m1 : f_X10_isOutside sheet 0 3 = 0
  · simp only [if_pos m1]
    have hq := sh4 m1
    by_cases m2 : f_X10_isOutside sort (-1) 3 = 0
    · simp only [if_pos m2]
      by_cases m3 : sort = -1
      · subst m3
        have e1 : ((-1 : Int32) < 0) := by decide
        have e2 : ¬ ((0 : Int32) ≤ -1) := by decide
        simp only [if_pos e1, if_neg e2, if_true]
        refine ⟨trivial, fun r hr => ?_, fun r => ?_, fun r t a hr ht => ?_, fun r hr => ?_⟩
        · rw [va_un (by omega)]; exact h.1 r hr
        · by_cases e : r = ix sheet
          · rw [e, pk_us]; exact ⟨by decide, by decide⟩
          · rw [pk_un e]; exact h.2.1 r
        · by_cases e : r = ix sheet
          · rw [e, va_us] at hr; cases hr
          · by_cases e2 : t = ix sheet
            · rw [e2, va_us] at ht; cases ht
            · rw [va_un e] at hr
              rw [va_un e2] at ht
              exact h.2.2.1 r t a hr ht
        · by_cases e : r = ix sheet
          · left
            rw [e, va_us, pk_us]
            exact ⟨rfl, by decide⟩
          · rw [va_un e, pk_un e, pk_un e]
            rcases h.2.2.2 r hr with a | ⟨x, hx, b1, b2, b3, b4, b5, b6⟩
            · exact Or.inl a
            · refine Or.inr ⟨x, hx, b1, b2, b3, b4, b5, fun j hj => ?_⟩
              unfold itZ
              rw [if_neg (by omega)]
              exact b6 j hj
      · have hs := so_ge m2 m3
        have hl : ¬ sort < 0 := Int32.not_lt.mpr hs.1
        simp only [if_neg m3, if_neg hl]
        by_cases m4 : n ≤ 40
        · have m5 : ¬ 0 ≤ n := fun q => hm ⟨m1, m2, m3, m4, q⟩
          simp only [if_pos m4, if_neg m5]
          exact ⟨trivial, h⟩
        · simp only [if_neg m4]
          exact ⟨trivial, h⟩
    · simp only [if_neg m2]
      exact ⟨trivial, h⟩
  · simp only [if_neg m1]
    exact ⟨trivial, h⟩
/-- an item put -/
theorem q_putS {l1 l2 : List PE} {ia iv isz : Nat} {iso : Int32} {ivs : Nat → Int32} {sht : Nat → Option Nat} {srt szs its : Nat → Int32} (h : RS (l1 ++ (ia, iv, iso, isz, ivs) :: l2) sht srt szs its) {sheet : Int32} (h4 : ix sheet < 4) (hq : sht (ix sheet) = some ia) (hsr : srt (ix sheet) = iso) (hso : 0 ≤ iso ∧ iso ≤ 3) (hsz : szs (ix sheet) = nI isz) (h40 : isz ≤ 40) (hi : ∀ j, j < isz → its (40 * ix sheet + j) = ivs j) (i_ v : Int32) :
    RS ((ia, iv, iso, isz, f_X10_put_w1 sheet i_ v iso isz ivs) :: (l1 ++ l2)) sht srt szs (f_X11_put_w1 srt its sheet i_ v isz) := by
  rcases put_its (its := its) (f := ivs) hsr hso.1 h40 i_ v with ⟨a, b⟩ | ⟨c, a, b⟩
  · rw [a, b]
    exact RS.put h h4 hq hsr hso hsz h40 ivs its hi (fun _ _ _ _ _ => rfl)
  · rw [a, b]
    refine RS.put h h4 hq hsr hso hsz h40 _ _ (fun j hj => ?_) (fun r j hr hne hj => ?_)
    · by_cases e : j = ix i_
      · rw [e, pk_us, pk_us]
      · rw [pk_un (by omega), pk_un e]
        exact hi j hj
    · exact pk_un (by omega)
