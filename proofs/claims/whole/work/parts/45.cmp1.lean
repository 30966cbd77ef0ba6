/-! THE LAW: class and model compared -/
theorem nO_ite {α : Type} {v lo hi : Int32} (a b : α) : (if nO v lo hi = 0 then a else b) = (if f_X10_isOutside v lo hi = 0 then b else a) := by
  unfold nO
  by_cases h : f_X10_isOutside v lo hi = 0
  · rw [if_pos h, if_neg (by decide), if_pos h]
  · rw [if_neg h, if_pos rfl, if_neg h]
def ag (c : Nat) (f h : Nat → Int32) : Prop := ∀ j, j < c → f j = h j
/-- the tunnel as it is: class (k f p m) against model (k' f' p' m') behind i calls -/
def RN (i cnt stp : Nat) (k f p m k' f' p' m' : Nat → Int32) : Prop :=
  cnt ≤ 8 ∧ stp ≤ 60 * i ∧ ag cnt k k' ∧ ag cnt f f' ∧ ag cnt p p' ∧ ag cnt m m' ∧ (∀ j, j < cnt → isK (k j)) ∧ (∀ j, j < cnt → plOk (p j)) ∧ ∀ j, j < cnt → moOk (m j)
theorem RN.up {i cnt stp : Nat} {k f p m k' f' p' m' : Nat → Int32} (h : RN i cnt stp k f p m k' f' p' m') : RN (i + 1) cnt stp k f p m k' f' p' m' := ⟨h.1, by have := h.2.1; omega, h.2.2⟩
theorem RN.pl {i cnt stp : Nat} {k f p m k' f' p' m' : Nat → Int32} (h : RN i cnt stp k f p m k' f' p' m') : ∀ j, j < cnt → plOk (p' j) := fun j hj => by rw [← h.2.2.2.2.1 j hj]; exact h.2.2.2.2.2.2.2.1 j hj
theorem RN.mo {i cnt stp : Nat} {k f p m k' f' p' m' : Nat → Int32} (h : RN i cnt stp k f p m k' f' p' m') : ∀ j, j < cnt → moOk (m' j) := fun j hj => by rw [← h.2.2.2.2.2.1 j hj]; exact h.2.2.2.2.2.2.2.2 j hj
theorem RN.kd {i cnt stp : Nat} {k f p m k' f' p' m' : Nat → Int32} (h : RN i cnt stp k f p m k' f' p' m') : ∀ j, j < cnt → isK (k' j) := fun j hj => by rw [← h.2.2.1 j hj]; exact h.2.2.2.2.2.2.1 j hj
theorem RN.sp {i cnt stp : Nat} {k f p m k' f' p' m' : Nat → Int32} (h : RN i cnt stp k f p m k' f' p' m') (hi : i ≤ 512) : stp < 2 ^ 29 := by have := h.2.1; omega
/-- the tunnel that is kept -/
def RK (i : Nat) (isk : Int32) (ycnt ystp : Nat) (yz : Int32) (yl yg ya yk yf yp ym : Nat → Int32) (vstp : Nat) (vl : Nat → Int32) (vz : Int32) (vcnt : Nat) (vg va vk vf vp vm : Nat → Int32) : Prop :=
  ycnt ≤ 8 ∧ (isk = 0 ∨ (vcnt = ycnt ∧ vstp = ystp ∧ vz = yz ∧ vl = yl ∧ vg = yg ∧ va = ya ∧ RN i ycnt ystp yk yf yp ym vk vf vp vm))
theorem RK.up {i : Nat} {isk : Int32} {ycnt ystp : Nat} {yz : Int32} {yl yg ya yk yf yp ym : Nat → Int32} {vstp : Nat} {vl : Nat → Int32} {vz : Int32} {vcnt : Nat} {vg va vk vf vp vm : Nat → Int32} (h : RK i isk ycnt ystp yz yl yg ya yk yf yp ym vstp vl vz vcnt vg va vk vf vp vm) : RK (i + 1) isk ycnt ystp yz yl yg ya yk yf yp ym vstp vl vz vcnt vg va vk vf vp vm := by
  refine ⟨h.1, ?_⟩
  rcases h.2 with q | ⟨a, b, c, d, e, f, g⟩
  · exact Or.inl q
  · exact Or.inr ⟨a, b, c, d, e, f, g.up⟩
theorem ite_nI (c : Prop) [Decidable c] (a b : Nat) : (if c then nI a else nI b) = nI (if c then a else b) := by
  by_cases h : c
  · rw [if_pos h, if_pos h]
  · rw [if_neg h, if_neg h]
theorem q_lawOf (laws : Nat → Int32) (law : Int32) : f_X10_lawOf laws law = f_X11_lawOf laws law := by
  unfold f_X10_lawOf f_X11_lawOf; rw [nO_ite]
theorem tq_m {law : Int32} (h : f_X10_isOutside law 0 3 = 0) : tq_most (ix law) = if nI (ix law) = 0 then 9 else 99 := by
  have hn := out_n (N := 3) (by decide) h
  unfold tq_most
  by_cases h0 : ix law = 0
  · rw [if_pos h0, if_pos (by rw [h0]; rfl)]
  · rw [if_neg h0, if_neg (nI_ne0 (by omega) (by omega))]
theorem q_set (laws : Nat → Int32) (law v : Int32) : f_X10_set laws law v = f_X11_set laws law v ∧ f_X10_set_w1 laws law v = f_X11_set_w1 laws law v := by
  unfold f_X10_set f_X11_set f_X10_set_w1 f_X11_set_w1
  simp only [nO_ite]
  by_cases h : f_X10_isOutside law 0 3 = 0
  · simp only [if_pos h]
    rw [tq_m h]
    by_cases h0 : nI (ix law) = 0
    · simp only [if_pos h0]; exact ⟨trivial, trivial⟩
    · simp only [if_neg h0]; exact ⟨trivial, trivial⟩
  · simp only [if_neg h]; exact ⟨trivial, trivial⟩
theorem q_roster (fogs arms : Nat → Int32) (rest what v : Int32) : f_X10_roster fogs arms rest what v = f_X11_roster fogs arms rest what v ∧ f_X10_roster_w1 fogs rest what v = f_X11_roster_w1 fogs rest what v ∧ f_X10_roster_w2 arms rest what v = f_X11_roster_w2 arms rest what v := by
  unfold f_X10_roster f_X11_roster f_X10_roster_w1 f_X11_roster_w1 f_X10_roster_w2 f_X11_roster_w2
  simp only [nO_ite]
  exact ⟨trivial, trivial, trivial⟩
theorem q_rosterOf (fogs arms : Nat → Int32) (rest what : Int32) : f_X10_rosterOf fogs arms rest what = f_X11_rosterOf fogs arms rest what := by
  unfold f_X10_rosterOf f_X11_rosterOf
  simp only [nO_ite]
theorem n8 {cnt : Nat} (hc : cnt ≤ 8) : (nI cnt < 8 ∧ ¬ nI cnt = 8 ∧ cnt < 8) ∨ (¬ nI cnt < 8 ∧ nI cnt = 8 ∧ cnt = 8) := by
  rcases Nat.lt_or_ge cnt 8 with h | h
  · exact Or.inl ⟨nI_lt (b := 8) h (by omega), nI_ne (b := 8) (by omega) (by omega) (by omega), h⟩
  · have e : cnt = 8 := by omega
    subst e
    exact Or.inr ⟨by decide, rfl, rfl⟩
theorem upd_ag {c : Nat} {f h : Nat → Int32} {x : Int32} (ha : ag c f h) : ag (c + 1) (upd f c x) (upd h c x) := by
  intro j hj
  by_cases e : j = c
  · rw [e, pk_us, pk_us]
  · rw [pk_un e, pk_un e]; exact ha j (by omega)
theorem upd_agk {c q : Nat} {f h : Nat → Int32} {x : Int32} (ha : ag c f h) : ag c (upd f q x) (upd h q x) := by
  intro j hj
  by_cases e : j = q
  · rw [e, pk_us, pk_us]
  · rw [pk_un e, pk_un e]; exact ha j hj
theorem upd_all {c : Nat} {f : Nat → Int32} {x : Int32} {P : Int32 → Prop} (h : ∀ j, j < c → P (f j)) (hx : P x) : ∀ j, j < c + 1 → P (upd f c x j) := by
  intro j hj
  by_cases e : j = c
  · rw [e, pk_us]; exact hx
  · rw [pk_un e]; exact h j (by omega)
theorem upd_allk {c q : Nat} {f : Nat → Int32} {x : Int32} {P : Int32 → Prop} (h : ∀ j, j < c → P (f j)) (hx : P x) : ∀ j, j < c → P (upd f q x j) := by
  intro j hj
  by_cases e : j = q
  · rw [e, pk_us]; exact hx
  · rw [pk_un e]; exact h j hj
theorem isK_out {x : Int32} (h : f_X10_isOutside x 0 5 = 0) : isK x := by
  have hn := out_n (N := 5) (by decide) h
  rw [hn.1]; exact isK_n (by have := hn.2; omega)
theorem plOk_out {x : Int32} {N : Int32} {M : Nat} (hN : N.toInt = M) (hM : M ≤ 12) (h : f_X10_isOutside x 0 N = 0) : plOk x := by
  have hn := out_n (N := M) hN h
  rw [hn.1]
  have := hn.2
  exact ⟨by rw [nI_toInt (by omega)]; omega, by rw [nI_toInt (by omega)]; omega⟩
theorem q_goer {i cnt stp : Nat} {k f p m k' f' p' m' : Nat → Int32} (h : RN i cnt stp k f p m k' f' p' m') (kind faith place : Int32) : f_X10_goer cnt kind faith place = f_X11_goer cnt kind faith place ∧ f_X10_goer_w1 cnt kind faith place = nI (f_X11_goer_w1 cnt kind faith place) ∧
    RN i (f_X11_goer_w1 cnt kind faith place) stp (f_X10_goer_w2 k cnt kind faith place) (f_X10_goer_w3 f cnt kind faith place) (f_X10_goer_w4 p cnt kind faith place) (f_X10_goer_w5 m cnt kind faith place) (f_X11_goer_w2 cnt k' kind faith place) (f_X11_goer_w3 cnt f' kind faith place) (f_X11_goer_w4 cnt p' kind faith place) (f_X11_goer_w5 cnt m' kind faith place) := by
  unfold f_X10_goer f_X11_goer f_X10_goer_w1 f_X11_goer_w1 f_X10_goer_w2 f_X10_goer_w3 f_X10_goer_w4 f_X10_goer_w5 f_X11_goer_w2 f_X11_goer_w3 f_X11_goer_w4 f_X11_goer_w5
  simp only [nO_ite]
  by_cases h1 : f_X10_isOutside kind 0 5 = 0
  · simp only [if_pos h1]
    by_cases h2 : f_X10_isOutside faith 0 99 = 0
    · simp only [if_pos h2]
      by_cases h3 : f_X10_isOutside place 0 11 = 0
      · simp only [if_pos h3]
        rcases n8 h.1 with ⟨a, b, c⟩ | ⟨a, b, c⟩
        · simp only [if_pos a, if_neg b]
          exact ⟨trivial, trivial, by omega, h.2.1, upd_ag h.2.2.1, upd_ag h.2.2.2.1, upd_ag h.2.2.2.2.1, upd_ag h.2.2.2.2.2.1, upd_all h.2.2.2.2.2.2.1 (isK_out h1), upd_all h.2.2.2.2.2.2.2.1 (plOk_out (M := 11) rfl (by omega) h3), upd_all h.2.2.2.2.2.2.2.2 ⟨by decide, by decide⟩⟩
        · simp only [if_neg a, if_pos b]
          exact ⟨trivial, trivial, h⟩
      · simp only [if_neg h3]; exact ⟨trivial, trivial, h⟩
    · simp only [if_neg h2]; exact ⟨trivial, trivial, h⟩
  · simp only [if_neg h1]; exact ⟨trivial, trivial, h⟩
theorem q_mind {i cnt stp : Nat} {k f p m k' f' p' m' : Nat → Int32} (h : RN i cnt stp k f p m k' f' p' m') (goer kind : Int32) : f_X10_mind k cnt goer kind = f_X11_mind cnt k' goer kind ∧ RN i cnt stp (f_X10_mind_w1 k cnt goer kind) f p m (f_X11_mind_w1 cnt k' goer kind) f' p' m' := by
  unfold f_X10_mind f_X11_mind f_X10_mind_w1 f_X11_mind_w1
  simp only [nO_ite]
  by_cases h1 : f_X8_has cnt goer = 0
  · simp only [if_pos h1]; exact ⟨trivial, h⟩
  · simp only [if_neg h1]
    have hg := has_n h.1 h1
    by_cases h2 : f_X10_isOutside kind 0 5 = 0
    · simp only [if_pos h2]
      exact ⟨h.2.2.1 _ hg.2, h.1, h.2.1, upd_agk h.2.2.1, h.2.2.2.1, h.2.2.2.2.1, h.2.2.2.2.2.1, upd_allk h.2.2.2.2.2.2.1 (isK_out h2), h.2.2.2.2.2.2.2⟩
    · simp only [if_neg h2]; exact ⟨trivial, h⟩
theorem q_trust {i cnt stp : Nat} {k f p m k' f' p' m' : Nat → Int32} (h : RN i cnt stp k f p m k' f' p' m') (goer v : Int32) : f_X10_trust f cnt goer v = f_X11_trust cnt f' goer v ∧ RN i cnt stp k (f_X10_trust_w1 f cnt goer v) p m k' (f_X11_trust_w1 cnt f' goer v) p' m' := by
  unfold f_X10_trust f_X11_trust f_X10_trust_w1 f_X11_trust_w1
  simp only [nO_ite]
  by_cases h1 : f_X8_has cnt goer = 0
  · simp only [if_pos h1]; exact ⟨trivial, h⟩
  · simp only [if_neg h1]
    have hg := has_n h.1 h1
    by_cases h2 : f_X10_isOutside v 0 99 = 0
    · simp only [if_pos h2]
      exact ⟨h.2.2.2.1 _ hg.2, h.1, h.2.1, h.2.2.1, upd_agk h.2.2.2.1, h.2.2.2.2⟩
    · simp only [if_neg h2]; exact ⟨trivial, h⟩
theorem q_bring {i cnt stp : Nat} {k f p m k' f' p' m' : Nat → Int32} (h : RN i cnt stp k f p m k' f' p' m') (goer place : Int32) : f_X10_bring p cnt goer place = f_X11_bring cnt p' goer place ∧ RN i cnt stp k f (f_X10_bring_w1 p cnt goer place) m k' f' (f_X11_bring_w1 cnt p' goer place) m' := by
  unfold f_X10_bring f_X11_bring f_X10_bring_w1 f_X11_bring_w1
  simp only [nO_ite]
  by_cases h1 : f_X8_has cnt goer = 0
  · simp only [if_pos h1]; exact ⟨trivial, h⟩
  · simp only [if_neg h1]
    have hg := has_n h.1 h1
    by_cases h2 : f_X10_isOutside place 0 12 = 0
    · simp only [if_pos h2]
      exact ⟨h.2.2.2.2.1 _ hg.2, h.1, h.2.1, h.2.2.1, h.2.2.2.1, upd_agk h.2.2.2.2.1, h.2.2.2.2.2.1, h.2.2.2.2.2.2.1, upd_allk h.2.2.2.2.2.2.2.1 (plOk_out (M := 12) rfl (by omega) h2), h.2.2.2.2.2.2.2.2⟩
    · simp only [if_neg h2]; exact ⟨trivial, h⟩
theorem mR_f {stp cnt : Nat} {z : Int32} {laws fogs arms kinds faiths places moved : Nat → Int32} (q w : Nat) (hw : w < 4) : mR stp laws z cnt fogs arms kinds faiths places moved (19 + 4 * q + w) = if w = 0 then kinds q else if w = 1 then faiths q else if w = 2 then places q else moved q := by
  rcases (show w = 0 ∨ w = 1 ∨ w = 2 ∨ w = 3 by omega) with rfl | rfl | rfl | rfl
  · exact mR_kd0
  · exact mR_fa
  · exact mR_pl
  · exact mR_mo
theorem q_of {i cnt stp : Nat} {k f p m k' f' p' m' : Nat → Int32} (h : RN i cnt stp k f p m k' f' p' m') (laws fogs arms : Nat → Int32) (z goer what : Int32) : f_X10_of laws fogs arms k f p m cnt stp goer what = f_X11_of stp laws z cnt fogs arms k' f' p' m' goer what := by
  unfold f_X10_of f_X11_of
  simp only [nO_ite]
  by_cases h1 : f_X8_has cnt goer = 0
  · simp only [if_pos h1]
  · simp only [if_neg h1]
    have hg := (has_n h.1 h1).2
    rw [h.2.2.1 _ hg, h.2.2.2.1 _ hg, h.2.2.2.2.1 _ hg, h.2.2.2.2.2.1 _ hg]
    by_cases h2 : f_X10_isOutside what 0 4 = 0
    · have hn := out_n (N := 4) (by decide) h2
      simp only [if_pos h2]
      rcases (show ix what = 0 ∨ ix what = 1 ∨ ix what = 2 ∨ ix what = 3 ∨ ix what = 4 by omega) with e | e | e | e | e
      · have e2 : what = 0 := by rw [hn.1, e]; rfl
        rw [e, if_neg (show ¬ (4 : Int32) ≤ nI 0 by decide), mR_f _ 0 (by omega), e2]; rfl
      · have e2 : what = 1 := by rw [hn.1, e]; rfl
        rw [e, if_neg (show ¬ (4 : Int32) ≤ nI 1 by decide), mR_f _ 1 (by omega), e2]; rfl
      · have e2 : what = 2 := by rw [hn.1, e]; rfl
        rw [e, if_neg (show ¬ (4 : Int32) ≤ nI 2 by decide), mR_f _ 2 (by omega), e2]; rfl
      · have e2 : what = 3 := by rw [hn.1, e]; rfl
        rw [e, if_neg (show ¬ (4 : Int32) ≤ nI 3 by decide), mR_f _ 3 (by omega), e2]; rfl
      · have e2 : what = 4 := by rw [hn.1, e]; rfl
        rw [e, if_pos (show (4 : Int32) ≤ nI 4 by decide), e2]
        simp only [if_neg (show ¬ (4 : Int32) = 0 by decide), if_neg (show ¬ (4 : Int32) = 1 by decide), if_neg (show ¬ (4 : Int32) = 2 by decide), if_neg (show ¬ (4 : Int32) = 3 by decide), if_pos (show (4 : Int32) = 4 from rfl)]
        unfold snow
        by_cases ht : thrF (p' (ix goer)) = 0
        · simp only [if_pos ht, if_pos True.intro]
        · simp only [if_neg ht]; rfl
    · simp only [if_neg h2]
      have hne : ∀ c : Int32, f_X10_isOutside c 0 4 = 0 → ¬ what = c := fun c hc q => h2 (by rw [q]; exact hc)
      rw [if_neg (hne 0 (by decide)), if_neg (hne 1 (by decide)), if_neg (hne 2 (by decide)), if_neg (hne 3 (by decide)), if_neg (hne 4 (by decide))]
theorem q_does {i cnt stp : Nat} {k f p m k' f' p' m' : Nat → Int32} (h : RN i cnt stp k f p m k' f' p' m') (laws fogs arms : Nat → Int32) (goer what : Int32) : doesF cnt (k (ix goer)) (fogs (stp % 6)) (arms (stp % 6)) (laws 0) (nI stp) (p (ix goer)) goer what = f_X11_does stp laws cnt fogs arms k' p' goer what := by
  unfold doesF f_X11_does
  simp only [nO_ite]
  by_cases h1 : f_X8_has cnt goer = 0
  · simp only [if_pos h1]
  · have hg := (has_n h.1 h1).2
    rw [h.2.2.1 _ hg, h.2.2.2.2.1 _ hg]
theorem q_steps {i cnt stp : Nat} {k f p m k' f' p' m' : Nat → Int32} (h : RN i cnt stp k f p m k' f' p' m') (laws fogs arms : Nat → Int32) (n : Int32) :
    (if f_X10_isOutside n 1 60 = 0 then bcF (setTo (thrs (stA laws fogs arms k cnt stp f p m (ix n)).2.1) cnt) else -1) = (if f_X10_isOutside n 1 60 = 0 then bcF (setTo (thrs (stA laws fogs arms k' cnt stp f' p' m' (ix n)).2.1) cnt) else -1) ∧
    RN (i + 1) cnt (if f_X10_isOutside n 1 60 = 0 then stp + ix n else stp) k (if f_X10_isOutside n 1 60 = 0 then (stA laws fogs arms k cnt stp f p m (ix n)).1 else f) (if f_X10_isOutside n 1 60 = 0 then (stA laws fogs arms k cnt stp f p m (ix n)).2.1 else p) (if f_X10_isOutside n 1 60 = 0 then (stA laws fogs arms k cnt stp f p m (ix n)).2.2 else m)
      k' (if f_X10_isOutside n 1 60 = 0 then (stA laws fogs arms k' cnt stp f' p' m' (ix n)).1 else f') (if f_X10_isOutside n 1 60 = 0 then (stA laws fogs arms k' cnt stp f' p' m' (ix n)).2.1 else p') (if f_X10_isOutside n 1 60 = 0 then (stA laws fogs arms k' cnt stp f' p' m' (ix n)).2.2 else m') := by
  by_cases h1 : f_X10_isOutside n 1 60 = 0
  · simp only [if_pos h1]
    have hn := out_n1 (M := 1) (N := 60) (by decide) (by decide) h1
    have hc := stA_c (laws := laws) (fogs := fogs) (arms := arms) (st := stp) h.2.2.1 h.2.2.2.1 h.2.2.2.2.1 h.2.2.2.2.2.1 (ix n)
    have ho := stA_ok (laws := laws) (fogs := fogs) (arms := arms) (kinds := k) (st := stp) (fa := f) h.2.2.2.2.2.2.2.1 h.2.2.2.2.2.2.2.2 (ix n)
    refine ⟨?_, h.1, by have := h.2.1; have := hn.2.1; omega, h.2.2.1, hc.1, hc.2.1, hc.2.2, h.2.2.2.2.2.2.1, ho.1, ho.2⟩
    exact congrArg bcF (setTo_c (fun j hj => by unfold thrs; rw [hc.2.1 j hj]))
  · simp only [if_neg h1]; exact ⟨trivial, h.up⟩
theorem q_step {i cnt stp : Nat} {k f p m k' f' p' m' : Nat → Int32} (h : RN i cnt stp k f p m k' f' p' m') (laws fogs arms : Nat → Int32) (z : Int32) :
    bcF (setTo (thrs (goP laws fogs arms stp k (drF laws f z cnt) p cnt)) (cnt)) = bcF (setTo (thrs (goP laws fogs arms stp k' (drF laws f' z cnt) p' cnt)) cnt) ∧
    RN (i + 1) cnt (stp + 1) k (goF laws fogs arms stp k (drF laws f z cnt) p cnt) (goP laws fogs arms stp k (drF laws f z cnt) p cnt) (goM laws fogs arms stp k p m cnt) k' (goF laws fogs arms stp k' (drF laws f' z cnt) p' cnt) (goP laws fogs arms stp k' (drF laws f' z cnt) p' cnt) (goM laws fogs arms stp k' p' m' cnt) := by
  have hd : ag cnt (drF laws f z cnt) (drF laws f' z cnt) := drF_c h.2.2.2.1
  have hP : ag cnt (goP laws fogs arms stp k (drF laws f z cnt) p cnt) (goP laws fogs arms stp k' (drF laws f' z cnt) p' cnt) := goP_c h.2.2.1 hd h.2.2.2.2.1
  refine ⟨congrArg bcF (setTo_c (fun j hj => by unfold thrs; rw [hP j hj])), h.1, by have := h.2.1; omega, h.2.2.1, goF_c h.2.2.1 hd h.2.2.2.2.1, hP, goM_c h.2.2.1 h.2.2.2.2.1 h.2.2.2.2.2.1, h.2.2.2.2.2.2.1, goP_ok h.2.2.2.2.2.2.2.1, goM_ok h.2.2.2.2.2.2.2.2⟩
theorem q_state {i cnt stp : Nat} {k f p m k' f' p' m' : Nat → Int32} (h : RN i cnt stp k f p m k' f' p' m') (laws fogs arms : Nat → Int32) (what : Int32) : f_X10_state laws fogs arms k f p cnt stp what = f_X11_state stp laws cnt fogs arms k' f' p' what := by
  unfold f_X10_state f_X11_state
  rw [setTo_c (f := thrs p) (h := thrs p') (fun j hj => by unfold thrs; rw [h.2.2.2.2.1 j hj]), setTo_c (f := snows laws fogs arms stp k p) (h := snows laws fogs arms stp k' p') (fun j hj => by unfold snows; rw [h.2.2.1 j hj, h.2.2.2.2.1 j hj]), sumTo_c h.2.2.2.1, sumTo_c h.2.2.2.2.1]
theorem posTo_c {f h : Nat → Int32} : ∀ {n : Nat}, (∀ j, j < n → f j = h j) → posTo f n = posTo h n
  | 0, _ => rfl
  | n + 1, e => by
    show (if f n ≤ 0 then posTo f n else posTo f n + 1) = (if h n ≤ 0 then posTo h n else posTo h n + 1)
    rw [posTo_c (fun j hj => e j (Nat.lt_succ_of_lt hj)), e n (Nat.lt_succ_self n)]
theorem q_many {i cnt stp : Nat} {k f p m k' f' p' m' : Nat → Int32} (h : RN i cnt stp k f p m k' f' p' m') (laws fogs arms : Nat → Int32) (rc tsz bg : Nat) (what : Int32) : f_X10_many laws fogs arms k p m cnt stp rc what tsz bg = f_X11_many stp laws cnt fogs arms k' p' m' tsz rc bg what := by
  unfold f_X10_many f_X11_many
  rw [setTo_c (f := thrs p) (h := thrs p') (fun j hj => by unfold thrs; rw [h.2.2.2.2.1 j hj]), setTo_c (f := snows laws fogs arms stp k p) (h := snows laws fogs arms stp k' p') (fun j hj => by unfold snows; rw [h.2.2.1 j hj, h.2.2.2.2.1 j hj]), posTo_c h.2.2.2.2.2.1]
