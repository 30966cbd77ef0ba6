/-! the law's own rows: a call whose cells lie among many -/
def okW (ws' : va_W) : va_W → va_W → List (Option Nat) → Prop
  | w1 :: W1, w0 :: W0, some j :: src => (ws'[j]? = some w1 ∧ w1.1 = w0.1) ∧ okW ws' W1 W0 src
  | w1 :: W1, w0 :: W0, none :: src => w1 = w0 ∧ okW ws' W1 W0 src
  | W1, W0, [] => W1 = W0
  | _, _, _ => False
theorem okW_at {ws' : va_W} : ∀ (src : List (Option Nat)) (W1 W0 : va_W), okW ws' W1 W0 src → ∀ (k : Nat) (q : Nat × va_E), W1[k]? = some q → (∃ j, src[k]? = some (some j) ∧ ws'[j]? = some q ∧ ∃ q0, W0[k]? = some q0 ∧ q0.1 = q.1) ∨ ((¬ ∃ j, src[k]? = some (some j)) ∧ W0[k]? = some q)
  | [], W1, W0, h, k, q, hk => by
    have e : W1 = W0 := by cases W1 <;> cases W0 <;> exact h
    subst e
    exact Or.inr ⟨by simp, hk⟩
  | some j :: src, [], W0, h, k, q, hk => by simp at hk
  | some j :: src, w1 :: W1, [], h, k, q, hk => by cases h
  | some j :: src, w1 :: W1, w0 :: W0, h, k, q, hk => by
    cases k with
    | zero =>
      cases hk
      exact Or.inl ⟨j, rfl, h.1.1, w0, rfl, h.1.2.symm⟩
    | succ k =>
      exact okW_at src W1 W0 h.2 k q hk
  | none :: src, [], W0, h, k, q, hk => by simp at hk
  | none :: src, w1 :: W1, [], h, k, q, hk => by cases h
  | none :: src, w1 :: W1, w0 :: W0, h, k, q, hk => by
    cases k with
    | zero =>
      cases hk
      exact Or.inr ⟨by simp, by rw [← h.1]; rfl⟩
    | succ k =>
      exact okW_at src W1 W0 h.2 k q hk
theorem hv_okW {g : GG} {A : Nat → Prop} {s : State} {H H1 : Heap} {locs locs1 : List Loc} {W0 W1 ws ws' : va_W} {src : List (Option Nat)} (hw : hv g A s H locs W0) (is : List Nat) (hC : is.map (fun i => W0[i]?) = ws.map some) (hP1 : va_P g.1 vwCl ws' H1) (hkq : ∀ q : Nat, q < H.size → ¬ va_I ws q → H1[q]? = H[q]?) (hS : va_S A s.heap H1 locs1) (ok : okW ws' W1 W0 src) (hsrc : is.all (fun i => (src.getD i none).isSome) = true) : hv g A s H1 locs1 W1 := by
  have hnot : ∀ (k : Nat) (q : Nat × va_E), W0[k]? = some q → (¬ ∃ j, src[k]? = some (some j)) → ¬ va_I ws q.1 := by
    intro k q hk hn ⟨j, e, hj⟩
    have h1 : (is.map (fun i => W0[i]?))[j]? = some (some (q.1, e)) := by rw [hC, List.getElem?_map, hj]; rfl
    rw [List.getElem?_map] at h1
    cases hi : is[j]? with
    | none => rw [hi] at h1; cases h1
    | some i =>
      rw [hi] at h1
      have e1 : W0[i]? = some (q.1, e) := Option.some.inj h1
      have e2 : i = k := hw.2.1.1 i k _ _ e1 hk rfl
      subst e2
      have h2 := List.all_eq_true.mp hsrc i (List.mem_of_getElem? hi)
      apply hn
      cases hs : src[i]? with
      | none => rw [List.getD_eq_getElem?_getD, hs] at h2; cases h2
      | some o =>
        rw [List.getD_eq_getElem?_getD, hs] at h2
        cases o with
        | none => cases h2
        | some j2 => exact ⟨j2, rfl⟩
  have key : ∀ (k : Nat) (q : Nat × va_E), W1[k]? = some q → (∃ q0, W0[k]? = some q0 ∧ q0.1 = q.1) ∧ va_at g.1 vwCl q H1 := by
    intro k q hk
    rcases okW_at src W1 W0 ok k q hk with ⟨j, -, h2, h3⟩ | ⟨h1, h2⟩
    · exact ⟨h3, hP1 j q h2⟩
    · exact ⟨⟨q, h2, rfl⟩, (hw.1 k q h2).kept (hkq q.1 (hw.1 k q h2).lt (hnot k q h2 h1))⟩
  refine ⟨fun k q hk => (key k q hk).2, ⟨fun i j x y hi hj hxy => ?_, fun k q hk => ?_⟩, hS⟩
  · obtain ⟨⟨x0, a1, a2⟩, -⟩ := key i x hi
    obtain ⟨⟨y0, b1, b2⟩, -⟩ := key j y hj
    exact hw.2.1.1 i j x0 y0 a1 b1 (a2.trans (hxy.trans b2.symm))
  · obtain ⟨⟨q0, a1, a2⟩, -⟩ := key k q hk
    rw [← a2]
    exact hw.2.1.2 k q0 a1
theorem D_nodup {W : va_W} : (∀ (i j : Nat) (p q : Nat × va_E), W[i]? = some p → W[j]? = some q → p.1 = q.1 → i = j) ↔ (W.map Prod.fst).Nodup := by
  constructor
  · intro h
    refine List.pairwise_iff_getElem.mpr (fun i j hi hj hij => ?_)
    intro e
    simp at hi hj
    have := h i j W[i] W[j] (List.getElem?_eq_getElem hi) (List.getElem?_eq_getElem hj) (by simpa using e)
    omega
  · intro h i j p q hi hj e
    have h2 := List.pairwise_iff_getElem.mp h
    obtain ⟨hi1, hi2⟩ := List.getElem?_eq_some_iff.mp hi
    obtain ⟨hj1, hj2⟩ := List.getElem?_eq_some_iff.mp hj
    rcases Nat.lt_trichotomy i j with c | c | c
    · exact (h2 i j (by simpa using hi1) (by simpa using hj1) c (by simp only [List.getElem_map]; rw [hi2, hj2]; exact e)).elim
    · exact c
    · exact (h2 j i (by simpa using hj1) (by simpa using hi1) c (by simp only [List.getElem_map]; rw [hi2, hj2]; exact e.symm)).elim
theorem hv_perm {g : GG} {A : Nat → Prop} {s : State} {H : Heap} {locs : List Loc} {W0 W1 : va_W} (hp : W0.Perm W1) (hw : hv g A s H locs W0) : hv g A s H locs W1 := by
  have mem : ∀ (k : Nat) (q : Nat × va_E), W1[k]? = some q → ∃ k0, W0[k0]? = some q := fun k q hk => List.getElem?_of_mem (hp.mem_iff.mpr (List.mem_of_getElem? hk))
  refine ⟨fun k q hk => ?_, ⟨?_, fun k q hk => ?_⟩, hw.2.2⟩
  · obtain ⟨k0, h0⟩ := mem k q hk
    exact hw.1 k0 q h0
  · exact D_nodup.mpr (((hp.map Prod.fst).nodup_iff).mp (D_nodup.mp hw.2.1.1))
  · obtain ⟨k0, h0⟩ := mem k q hk
    exact hw.2.1.2 k0 q h0
abbrev plE (g : GG) (e : PE) : va_W := [cob e.1 3 [.int e.2.2.1, .ref e.2.1], cin g e.2.1 e.2.2.2.1 e.2.2.2.2]
theorem pm_out (g : GG) (C : va_W) (l1 l2 : List PE) (e : PE) : (C ++ plW g (l1 ++ e :: l2)).Perm (plE g e ++ (C ++ plW g (l1 ++ l2))) := by
  rw [plW_app, plW_app]
  show (C ++ (plW g l1 ++ (plE g e ++ plW g l2))).Perm _
  exact (List.Perm.append_left C (List.perm_append_comm_assoc _ _ _)).trans (List.perm_append_comm_assoc _ _ _)
theorem pm_in (C1 E C2 P : va_W) : (C1 ++ (E ++ (C2 ++ P))).Perm (C1 ++ (C2 ++ (E ++ P))) := by
  exact List.Perm.append_left C1 (List.perm_append_comm_assoc E C2 P)
theorem okW_s {ws' W1 W0 : va_W} {src : List (Option Nat)} {w1 w0 : Nat × va_E} {j : Nat} (a : ws'[j]? = some w1) (b : w1.1 = w0.1) (h : okW ws' W1 W0 src) : okW ws' (w1 :: W1) (w0 :: W0) (some j :: src) := ⟨⟨a, b⟩, h⟩
theorem okW_n {ws' W1 W0 : va_W} {src : List (Option Nat)} {w : Nat × va_E} (h : okW ws' W1 W0 src) : okW ws' (w :: W1) (w :: W0) (none :: src) := ⟨rfl, h⟩
theorem okW_0 {ws' W : va_W} : okW ws' W W [] := by cases W <;> rfl
section CORE52
variable {p : Program} {l : Launch} {e : Env} {R : Room} {s : State} {m : MethodId} {args : Array Value} {below : List Frame} {meth : Method} {c : Code} {H : Heap} {locs : List Loc} {cells slots : Nat} {Q : State → Prop}
variable {cc : ByteArray} {nL pc : Nat} {Ts : List Cond} {own : String} {ls : Array Slot} {rest st0 : List Value} {g : GG} {A : Nat → Prop} {W0 : va_W} {a : Nat}
theorem mcL {ws : va_W} {Post : Option Value → va_W → Prop} {y : MethodName} {cw : List Cond} {rm : Room} {As : List Value} {b index n maxL ci : Nat} {bytes : ByteArray} {ret : Option FieldType} {C : String} {T : u_T} {N : Nat} {fs : List Value}
    (hf : CallFix p m c cc nL s args Ts own) (hk : kk g s) (hst : sta g A s s.heap) (hw : hv g A s H locs W0) (hM : mtR l g y cw rm (.ref b :: As) ws Post) (cwd : CallW R s args own C index y bytes maxL ret cw rm 0 0 n) (is : List Nat) (hC : is.map (fun i => W0[i]?) = ws.map some) (hn : va_nd is = true) (q0 : Nat) (he : W0[q0]? = some (b, .inr (ci, fs))) (hc : vwCl[ci]? = some (C, T, N)) (hlen : As.length = n) (hls : ls.size = nL) (hstk : st0 = As.reverse ++ .ref b :: rest) (hroom : (rest.map fun v => v.category).sum ≤ 8) (hdg : decode cc pc = .ok (.invokevirtual index, 3)) (hcs : cells ≤ R.cells ∧ slots ≤ R.slots)
    (kk : ∀ (rv : Option Value) (ws' : va_W), Post rv ws' → ∀ (H1 : Heap) (locs1 : List Loc), (∀ (W1 : va_W) (src : List (Option Nat)), okW ws' W1 W0 src → is.all (fun i => (src.getD i none).isSome) = true → hv g A s H1 locs1 W1) → W p l e R s m args below meth c H1 locs1 cells slots Q (F0 m (pc + 3) ls (rv.toList ++ rest))) : W p l e R s m args below meth c H locs cells slots Q (F0 m pc ls st0) := by
  have hr : va_Run p l e R s m args below meth c H locs cells slots 0 0 (F0 m pc ls st0) rest (mtS g ws Post (Value.ref b :: As).toArray) (va_I ws) := va_runV hf hM cwd ⟨mtP.blind g _ ws, va_recv hk.1 hw.1 hc he, mpre hk hst hw is hC hn⟩ rfl hlen hls hstk (lv_room hroom) hdg hcs
  intro T hT X
  obtain ⟨v, st₀, t, T', L, h0, X', hL, e1, e2, ⟨rv, ws', hv0, hPo, hfst, hP1, hz, hkq⟩, st⟩ := hr T hT X
  cases hv0
  rw [h0] at hz hkq
  have hsub := va_I.sub hw.2.1 is hC
  have hS1 : va_S A s.heap T'.heap (locs ++ L) := ⟨Nat.le_trans hw.2.2.1 (by rw [e1]; exact hz), fun q h1 h2 => by rw [e1, hkq q (Nat.lt_of_lt_of_le h1 hw.2.2.1) (fun z => h2 (hsub q z))]; exact hw.2.2.2.1 q h1 h2, fun q hq => by
      rcases List.mem_append.mp hq with h | h
      · exact hw.2.2.2.2 q h
      · exact hsub _ (hL q h)⟩
  obtain ⟨t2, a1, b1⟩ := kk v ws' hPo T'.heap (locs ++ L) (fun W1 src ok hsrc => hv_okW hw is hC (by rw [e1]; exact hP1) (fun q h1 h2 => by rw [e1]; exact hkq q h1 h2) hS1 ok hsrc) T' rfl X'
  exact ⟨t2, st t2 a1, b1⟩
/-- a call that makes cells; its own cells stand first -/
theorem mcLA {ws wr : va_W} {Post : Option Value → va_W → Prop} {mc ms : Nat} {y : MethodName} {cw : List Cond} {rm : Room} {As : List Value} {b index n maxL ci : Nat} {bytes : ByteArray} {ret : Option FieldType} {C : String} {T : u_T} {N : Nat} {fs : List Value}
    (hf : CallFix p m c cc nL s args Ts own) (hk : kk g s) (hN : kN s) (hst : sta g A s s.heap) (hw : hv g A s H locs (ws ++ wr)) (hA : ∀ q, s.heap.size ≤ q → A q) (hM : mtA l g y cw rm (.ref b :: As) ws H.size Post mc ms) (cwd : CallW R s args own C index y bytes maxL ret cw rm mc ms n) (q0 : Nat) (he : (ws ++ wr)[q0]? = some (b, .inr (ci, fs))) (hc : vwCl[ci]? = some (C, T, N)) (hlen : As.length = n) (hls : ls.size = nL) (hstk : st0 = As.reverse ++ .ref b :: rest) (hroom : (rest.map fun v => v.category).sum ≤ 8) (hdg : decode cc pc = .ok (.invokevirtual index, 3)) (hcs : cells + mc ≤ R.cells ∧ slots + ms ≤ R.slots)
    (kk : ∀ (rv : Option Value) (ws' : va_W), Post rv ws' → ∀ (H1 : Heap) (locs1 : List Loc), hv g A s H1 locs1 (ws' ++ wr) → W p l e R s m args below meth c H1 locs1 (cells + mc) (slots + ms) Q (F0 m (pc + 3) ls (rv.toList ++ rest))) : W p l e R s m args below meth c H locs cells slots Q (F0 m pc ls st0) := by
  have hC : (List.range ws.length).map (fun i => (ws ++ wr)[i]?) = ws.map some := by
    apply List.ext_getElem?
    intro k
    by_cases h : k < ws.length
    · rw [List.getElem?_map, List.getElem?_range h, List.getElem?_map, List.getElem?_eq_getElem h]
      show some ((ws ++ wr)[k]?) = some (some ws[k])
      rw [List.getElem?_append_left h, List.getElem?_eq_getElem h]
    · rw [List.getElem?_eq_none (by simp; omega), List.getElem?_eq_none (by simp; omega)]
  have hn : va_nd (List.range ws.length) = true := nd_range _ List.nodup_range
  have hR : ((List.range wr.length).map (fun k => ws.length + k)).map (fun i => (ws ++ wr)[i]?) = wr.map some := by
    apply List.ext_getElem?
    intro k
    by_cases h : k < wr.length
    · rw [List.getElem?_map, List.getElem?_map, List.getElem?_range h, List.getElem?_map, List.getElem?_eq_getElem h]
      show some ((ws ++ wr)[ws.length + k]?) = some (some wr[k])
      rw [List.getElem?_append_right (by omega), show ws.length + k - ws.length = k by omega, List.getElem?_eq_getElem h]
    · rw [List.getElem?_eq_none (by simp; omega), List.getElem?_eq_none (by simp; omega)]
  have hnR : va_nd ((List.range wr.length).map (fun k => ws.length + k)) = true := by
    refine nd_range _ (List.pairwise_map.mpr ?_)
    exact List.Pairwise.imp (fun h => by omega) List.nodup_range
  refine mgoA (va_runV hf hM cwd ⟨mtAP.blind g _ ws _, va_recv hk.1 hw.1 hc he, mpreA hk hN hst hw _ hC hn⟩ rfl hlen hls hstk (lv_room hroom) hdg hcs) hw hA _ _ hC hR hnR (fun i hi => ?_) (fun rv ws' hPo H1 locs1 h => kk rv ws' hPo H1 locs1 (hv_perm List.perm_append_comm h))
  obtain ⟨k, -, rfl⟩ := List.mem_map.mp hi
  intro h
  have := List.mem_range.mp h
  omega
end CORE52
