/-! public methods: contracts with a relation; numbers of arguments as plain numbers -/
abbrev ix (x : Int32) : Nat := x.toNatClampNeg
def mtR (l : Launch) (g : GG) (y : MethodName) (cw : List Cond) (rm : Room) (as : List Value) (ws : va_W) (Post : Option Value → va_W → Prop) : Prop :=
  Met l y cw rm (mtP g as ws) (fun _ st o t => ∃ (rv : Option Value) (ws' : va_W), o = .returned rv ∧ Post rv ws' ∧ ws'.map Prod.fst = ws.map Prod.fst ∧ va_P g.1 vwCl ws' t.heap ∧ va_F (va_I ws) st t) 0 0 (va_I ws)
def mtS (g : GG) (ws : va_W) (Post : Option Value → va_W → Prop) : Array Value → State → Outcome → State → Prop := fun _ st o t => ∃ (rv : Option Value) (ws' : va_W), o = .returned rv ∧ Post rv ws' ∧ ws'.map Prod.fst = ws.map Prod.fst ∧ va_P g.1 vwCl ws' t.heap ∧ va_F (va_I ws) st t
theorem mtR.of {l : Launch} {g : GG} {y : MethodName} {cw cw' : List Cond} {rm : Room} {as : List Value} {ws : va_W} {Post : Option Value → va_W → Prop} {cc : ByteArray} {nL : Nat} {ret : Option FieldType} {own : String}
    (hy : plainFor y = true) (ho : y.cls = own) (hcw : cw = Cond.code y cc nL ret :: cw') (hlen : (lg_sl as).length ≤ nL)
    (body : ∀ (p : Program) (e : Env) (s : State) (m : MethodId) (below : List Frame) (meth : Method) (c : Code), CallFix p m c cc nL s as.toArray cw own → meth.sig.returnType = ret → meth.locks = false → meth.name = y.name → kk g s → sta g (va_I ws) s s.heap → hv g (va_I ws) s s.heap [] ws → ∀ ls : Array Slot, lv_has ls nL (lv_args 0 as) →
      W p l e rm s m as.toArray below meth c s.heap [] 0 0 (MQ below (mtS g ws Post) as.toArray s 0 0 (va_I ws)) (F0 m 0 ls [])) : mtR l g y cw rm as ws Post := by
  refine metF (cc := cc) (maxL := nL) (ret := ret) hy hcw ?_
  intro p e s m args below meth c s₁ B hml hq
  obtain ⟨rfl, hk, hst, hP, hD⟩ := hq
  have hts := atoms_spec (ws := cw) B.pre
  have hown : s.vm.findClass own = some m.cls := by rw [← ho]; exact findClass_of_methodNamed B.named
  have hl := lv_entry as (n := nL) hlen
  rw [lg_entry_eq]
  exact body p e s m below meth c ⟨B.exec, B.bytes, hml, hown, hts⟩ B.returns B.notSynchronized (name_of_methodNamed B.named B.method).1 hk hst ⟨hP, hD, va_S.rf⟩ _ hl
section CORE2
variable {p : Program} {l : Launch} {e : Env} {R : Room} {s : State} {m : MethodId} {args : Array Value} {below : List Frame} {meth : Method} {c : Code} {H : Heap} {locs : List Loc} {cells slots : Nat} {Q : State → Prop}
variable {cc : ByteArray} {nL pc : Nat} {Ts : List Cond} {own : String} {ls : Array Slot} {rest st0 : List Value} {g : GG} {A : Nat → Prop} {W0 : va_W} {a : Nat}
theorem rE_i {ws : va_W} {v : Int32} {Post : Option Value → va_W → Prop} (hf : CallFix p m c cc nL s args Ts own) (hr : meth.sig.returnType = some .int) (hlk : meth.locks = false) (hw : hv g (va_I ws) s H locs W0) (hP : Post (some (.int v)) W0) (hfst : W0.map Prod.fst = ws.map Prod.fst) (hdg : decode cc pc = .ok (.ireturn, 1)) :
    W p l e R s m args below meth c H locs cells slots (MQ below (mtS g ws Post) args s cells slots (va_I ws)) (F0 m pc ls [.int v]) :=
  W.iret hf.1 hf.2.1 hr (fun t ht _ => ⟨_, _, rfl, hP, hfst, by rw [ht]; exact hw.1, hw.2.2.F ht⟩) hw.2.2.2.2 hdg hlk
theorem rE_l {ws : va_W} {v : Int64} {Post : Option Value → va_W → Prop} (hf : CallFix p m c cc nL s args Ts own) (hr : meth.sig.returnType = some .long) (hlk : meth.locks = false) (hw : hv g (va_I ws) s H locs W0) (hP : Post (some (.long v)) W0) (hfst : W0.map Prod.fst = ws.map Prod.fst) (hdg : decode cc pc = .ok (.lreturn, 1)) :
    W p l e R s m args below meth c H locs cells slots (MQ below (mtS g ws Post) args s cells slots (va_I ws)) (F0 m pc ls [.long v]) :=
  W.lret hf.1 hf.2.1 hr (fun t ht _ => ⟨_, _, rfl, hP, hfst, by rw [ht]; exact hw.1, hw.2.2.F ht⟩) hw.2.2.2.2 hdg hlk
theorem rE_v {ws : va_W} {Post : Option Value → va_W → Prop} (hf : CallFix p m c cc nL s args Ts own) (hr : meth.sig.returnType = none) (hlk : meth.locks = false) (hw : hv g (va_I ws) s H locs W0) (hP : Post none W0) (hfst : W0.map Prod.fst = ws.map Prod.fst) (hdg : decode cc pc = .ok (.return_, 1)) :
    W p l e R s m args below meth c H locs cells slots (MQ below (mtS g ws Post) args s cells slots (va_I ws)) (F0 m pc ls []) :=
  W.vret hf.1 hf.2.1 hr (fun t ht _ => ⟨_, _, rfl, hP, hfst, by rw [ht]; exact hw.1, hw.2.2.F ht⟩) hw.2.2.2.2 hdg hlk
end CORE2
/-! what the checks say -/
theorem out_0 {v a b : Int32} (h : f_X10_isOutside v a b = 0) : ¬ v < a ∧ ¬ b < v := by
  unfold f_X10_isOutside at h
  by_cases h1 : v < a
  · rw [if_pos h1] at h; cases h
  · rw [if_neg h1] at h
    by_cases h2 : v ≤ b
    · exact ⟨h1, Int32.not_lt.mpr h2⟩
    · rw [if_neg h2] at h; cases h
theorem fa_lt' (a b : Int32) : a < b ↔ a.toInt < b.toInt := Int32.lt_iff_toInt_lt
/-- a number within 0 and B is its plain number -/
theorem out_n {v : Int32} {B : Int32} {N : Nat} (hB : B.toInt = N) (h : f_X10_isOutside v 0 B = 0) : v = nI (ix v) ∧ ix v ≤ N := by
  obtain ⟨h1, h2⟩ := out_0 h
  have h5 : v ≤ B := Int32.not_lt.mp h2
  obtain ⟨j, hj, rfl⟩ := nI_of2 hB h1 h5
  have hB2 : N < 2 ^ 31 := by have := B.toInt_lt; omega
  have e : ix (nI j) = j := nI_clamp (by omega)
  rw [e]
  exact ⟨rfl, hj⟩
theorem out_n1 {v : Int32} {A B : Int32} {M N : Nat} (hA : A.toInt = M) (hB : B.toInt = N) (h : f_X10_isOutside v A B = 0) : v = nI (ix v) ∧ ix v ≤ N ∧ M ≤ ix v := by
  obtain ⟨h1, h2⟩ := out_0 h
  have h5 : v ≤ B := Int32.not_lt.mp h2
  have h6 : ¬ v < 0 := by
    rw [fa_lt'] at h1 ⊢
    rw [hA] at h1
    show ¬ v.toInt < (0 : Int)
    omega
  obtain ⟨j, hj, rfl⟩ := nI_of2 hB h6 h5
  have hB2 : N < 2 ^ 31 := by have := B.toInt_lt; omega
  have e : ix (nI j) = j := nI_clamp (by omega)
  rw [e]
  refine ⟨rfl, hj, ?_⟩
  rw [fa_lt', hA, nI_toInt (by omega)] at h1
  omega
theorem out_in {v B : Int32} {N : Nat} (hB : B.toInt = (N : Int)) (h : f_X10_isOutside v 0 B = 0) : vp_in v (N + 1) := by
  have hN := out_n hB h
  have hB2 : N < 2 ^ 31 := by have := B.toInt_lt; omega
  rw [hN.1]
  unfold vp_in
  have h2 := hN.2
  intro hx
  rcases hx with hx | hx
  · exact nI_pos (by omega) hx
  · rw [nI_clamp (by omega)] at hx
    omega
theorem has_n {c : Nat} {x : Int32} (hc : c ≤ 8) (h : ¬ f_X8_has c x = 0) : x = nI (ix x) ∧ ix x < c := by
  unfold f_X8_has at h
  by_cases h1 : x < 0
  · rw [if_pos h1] at h; exact absurd rfl h
  · rw [if_neg h1] at h
    by_cases h2 : nI c ≤ x
    · rw [if_pos h2] at h; exact absurd rfl h
    · obtain ⟨j, hj, rfl⟩ := nI_of h1
      have e : ix (nI j) = j := nI_clamp hj
      rw [e]
      refine ⟨rfl, Nat.not_le.mp (fun q => h2 ((nI_leI (by omega) hj).mpr q))⟩
theorem int_in {v : Int32} {n : Nat} (h : v = nI (ix v)) (h2 : ix v < n) (hn : n < 2 ^ 31) : vp_in v n := by
  rw [h]; exact vp_in_nI h2 hn
theorem sw_o2 {x : Int32} (lo hi : Int) (vs : List Int32) (hv : vs.map Int32.toInt = (List.range vs.length).map (fun (j : Nat) => lo + (j : Int))) (hh : lo + (vs.length : Int) - 1 = hi) (h : x ∉ vs) : x.toInt < lo ∨ hi < x.toInt := by
  subst hh
  by_cases h1 : x.toInt < lo
  · exact Or.inl h1
  · by_cases h2 : lo + vs.length - 1 < x.toInt
    · exact Or.inr h2
    · exfalso
      apply h
      have hj : (x.toInt - lo).toNat < vs.length := by omega
      have h3 : (vs.map Int32.toInt)[(x.toInt - lo).toNat]? = some x.toInt := by
        rw [hv, List.getElem?_map, List.getElem?_range hj]
        simp only [Option.map_some, Option.some.injEq]
        omega
      rw [List.getElem?_map] at h3
      cases h4 : vs[(x.toInt - lo).toNat]? with
      | none => rw [h4] at h3; cases h3
      | some z =>
        rw [h4] at h3
        have hzx : z = x := Int32.toInt_inj.mp (Option.some.inj h3)
        rw [← hzx]
        exact List.mem_of_getElem? h4
/-- what the goer's four words are worth -/
def doesF (cnt : Nat) (kd fog ar hum st pl goer what : Int32) : Int32 := if f_X8_has cnt goer = 0 then -1 else if f_X10_isOutside what 0 3 = 0 then (if thrF pl = 0 then (if what = 0 then 1000 + sightF kd fog ar hum else if what = 1 then 1000 + keenF kd ar hum else if what = 2 then 1000 + fearsF kd fog else 1000 + paceF kd st (seesF kd fog ar hum pl)) else -3) else -1
