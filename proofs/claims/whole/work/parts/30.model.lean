/-! THE MODEL: its row, said by the same words as a tunnel -/
def mR (stp : Nat) (laws : Nat → Int32) (z : Int32) (cnt : Nat) (fogs arms kinds faiths places moved : Nat → Int32) : Nat → Int32 := fun j =>
  if j = 0 then nI stp else if j < 5 then laws (j - 1) else if j = 5 then z else if j = 6 then nI cnt else if j < 13 then fogs (j - 7) else if j < 19 then arms (j - 13) else
  if (j - 19) % 4 = 0 then kinds ((j - 19) / 4) else if (j - 19) % 4 = 1 then faiths ((j - 19) / 4) else if (j - 19) % 4 = 2 then places ((j - 19) / 4) else moved ((j - 19) / 4)
theorem mR_law {stp cnt : Nat} {z : Int32} {laws fogs arms kinds faiths places moved : Nat → Int32} {r : Nat} (h : r < 4) : mR stp laws z cnt fogs arms kinds faiths places moved (1 + r) = laws r := by
  unfold mR
  rw [if_neg (by omega), if_pos (by omega), show 1 + r - 1 = r by omega]
theorem mR_fog {stp cnt : Nat} {z : Int32} {laws fogs arms kinds faiths places moved : Nat → Int32} {r : Nat} (h : r < 6) : mR stp laws z cnt fogs arms kinds faiths places moved (7 + r) = fogs r := by
  unfold mR
  rw [if_neg (by omega), if_neg (by omega), if_neg (by omega), if_neg (by omega), if_pos (by omega), show 7 + r - 7 = r by omega]
theorem mR_arm {stp cnt : Nat} {z : Int32} {laws fogs arms kinds faiths places moved : Nat → Int32} {r : Nat} (h : r < 6) : mR stp laws z cnt fogs arms kinds faiths places moved (13 + r) = arms r := by
  unfold mR
  rw [if_neg (by omega), if_neg (by omega), if_neg (by omega), if_neg (by omega), if_neg (by omega), if_pos (by omega), show 13 + r - 13 = r by omega]
theorem mR_kd {stp cnt : Nat} {z : Int32} {laws fogs arms kinds faiths places moved : Nat → Int32} {k : Nat} : mR stp laws z cnt fogs arms kinds faiths places moved (19 + 4 * k) = kinds k := by
  unfold mR
  rw [if_neg (by omega), if_neg (by omega), if_neg (by omega), if_neg (by omega), if_neg (by omega), if_neg (by omega), if_pos (by omega), show (19 + 4 * k - 19) / 4 = k by omega]
theorem mR_fa {stp cnt : Nat} {z : Int32} {laws fogs arms kinds faiths places moved : Nat → Int32} {k : Nat} : mR stp laws z cnt fogs arms kinds faiths places moved (19 + 4 * k + 1) = faiths k := by
  unfold mR
  rw [if_neg (by omega), if_neg (by omega), if_neg (by omega), if_neg (by omega), if_neg (by omega), if_neg (by omega), if_neg (by omega), if_pos (by omega), show (19 + 4 * k + 1 - 19) / 4 = k by omega]
theorem mR_pl {stp cnt : Nat} {z : Int32} {laws fogs arms kinds faiths places moved : Nat → Int32} {k : Nat} : mR stp laws z cnt fogs arms kinds faiths places moved (19 + 4 * k + 2) = places k := by
  unfold mR
  rw [if_neg (by omega), if_neg (by omega), if_neg (by omega), if_neg (by omega), if_neg (by omega), if_neg (by omega), if_neg (by omega), if_neg (by omega), if_pos (by omega), show (19 + 4 * k + 2 - 19) / 4 = k by omega]
theorem mR_mo {stp cnt : Nat} {z : Int32} {laws fogs arms kinds faiths places moved : Nat → Int32} {k : Nat} : mR stp laws z cnt fogs arms kinds faiths places moved (19 + 4 * k + 3) = moved k := by
  unfold mR
  rw [if_neg (by omega), if_neg (by omega), if_neg (by omega), if_neg (by omega), if_neg (by omega), if_neg (by omega), if_neg (by omega), if_neg (by omega), if_neg (by omega), show (19 + 4 * k + 3 - 19) / 4 = k by omega]
theorem mR_kd0 {stp cnt : Nat} {z : Int32} {laws fogs arms kinds faiths places moved : Nat → Int32} {k : Nat} : mR stp laws z cnt fogs arms kinds faiths places moved (19 + 4 * k + 0) = kinds k := mR_kd
theorem mR_all {P : Nat → Prop} (h0 : P 0) (h1 : ∀ r, r < 4 → P (1 + r)) (h5 : P 5) (h6 : P 6) (h7 : ∀ r, r < 6 → P (7 + r)) (h13 : ∀ r, r < 6 → P (13 + r)) (hk : ∀ k, P (19 + 4 * k)) (hf : ∀ k, P (19 + 4 * k + 1)) (hp : ∀ k, P (19 + 4 * k + 2)) (hm : ∀ k, P (19 + 4 * k + 3)) : ∀ j, P j := by
  intro j
  by_cases a0 : j = 0
  · rw [a0]; exact h0
  · by_cases a1 : j < 5
    · have := h1 (j - 1) (by omega); rw [show 1 + (j - 1) = j by omega] at this; exact this
    · by_cases a5 : j = 5
      · rw [a5]; exact h5
      · by_cases a6 : j = 6
        · rw [a6]; exact h6
        · by_cases a7 : j < 13
          · have := h7 (j - 7) (by omega); rw [show 7 + (j - 7) = j by omega] at this; exact this
          · by_cases a13 : j < 19
            · have := h13 (j - 13) (by omega); rw [show 13 + (j - 13) = j by omega] at this; exact this
            · have q : (j - 19) % 4 = 0 ∨ (j - 19) % 4 = 1 ∨ (j - 19) % 4 = 2 ∨ (j - 19) % 4 = 3 := by omega
              rcases q with q | q | q | q
              · have := hk ((j - 19) / 4); rw [show 19 + 4 * ((j - 19) / 4) = j by omega] at this; exact this
              · have := hf ((j - 19) / 4); rw [show 19 + 4 * ((j - 19) / 4) + 1 = j by omega] at this; exact this
              · have := hp ((j - 19) / 4); rw [show 19 + 4 * ((j - 19) / 4) + 2 = j by omega] at this; exact this
              · have := hm ((j - 19) / 4); rw [show 19 + 4 * ((j - 19) / 4) + 3 = j by omega] at this; exact this
theorem upd_uu (f : Nat → Int32) (k : Nat) (x y : Int32) : upd (upd f k x) k y = upd f k y := by
  funext j
  by_cases h : j = k
  · subst h; rw [pk_us, pk_us]
  · rw [pk_un h, pk_un h, pk_un h]
theorem mU_stp {stp cnt : Nat} {z : Int32} {laws fogs arms kinds faiths places moved : Nat → Int32} {v : Nat} : upd (mR stp laws z cnt fogs arms kinds faiths places moved) (0) (nI v) = mR v laws z cnt fogs arms kinds faiths places moved := by
  funext j
  refine mR_all (P := fun j => upd (mR stp laws z cnt fogs arms kinds faiths places moved) (0) (nI v) j = mR v laws z cnt fogs arms kinds faiths places moved j) ?_ ?_ ?_ ?_ ?_ ?_ ?_ ?_ ?_ ?_ j
  · rw [pk_us]; rfl
  · intro x hx
    rw [pk_un (by omega), mR_law hx, mR_law hx]
  · rw [pk_un (by omega)]; rfl
  · rw [pk_un (by omega)]; rfl
  · intro x hx
    rw [pk_un (by omega), mR_fog hx, mR_fog hx]
  · intro x hx
    rw [pk_un (by omega), mR_arm hx, mR_arm hx]
  · intro x
    rw [pk_un (by omega), mR_kd, mR_kd]
  · intro x
    rw [pk_un (by omega), mR_fa, mR_fa]
  · intro x
    rw [pk_un (by omega), mR_pl, mR_pl]
  · intro x
    rw [pk_un (by omega), mR_mo, mR_mo]
theorem mU_z {stp cnt : Nat} {z : Int32} {laws fogs arms kinds faiths places moved : Nat → Int32} {v : Int32} : upd (mR stp laws z cnt fogs arms kinds faiths places moved) (5) v = mR stp laws v cnt fogs arms kinds faiths places moved := by
  funext j
  refine mR_all (P := fun j => upd (mR stp laws z cnt fogs arms kinds faiths places moved) (5) v j = mR stp laws v cnt fogs arms kinds faiths places moved j) ?_ ?_ ?_ ?_ ?_ ?_ ?_ ?_ ?_ ?_ j
  · rw [pk_un (by omega)]; rfl
  · intro x hx
    rw [pk_un (by omega), mR_law hx, mR_law hx]
  · rw [pk_us]; rfl
  · rw [pk_un (by omega)]; rfl
  · intro x hx
    rw [pk_un (by omega), mR_fog hx, mR_fog hx]
  · intro x hx
    rw [pk_un (by omega), mR_arm hx, mR_arm hx]
  · intro x
    rw [pk_un (by omega), mR_kd, mR_kd]
  · intro x
    rw [pk_un (by omega), mR_fa, mR_fa]
  · intro x
    rw [pk_un (by omega), mR_pl, mR_pl]
  · intro x
    rw [pk_un (by omega), mR_mo, mR_mo]
theorem mU_cnt {stp cnt : Nat} {z : Int32} {laws fogs arms kinds faiths places moved : Nat → Int32} {v : Nat} : upd (mR stp laws z cnt fogs arms kinds faiths places moved) (6) (nI v) = mR stp laws z v fogs arms kinds faiths places moved := by
  funext j
  refine mR_all (P := fun j => upd (mR stp laws z cnt fogs arms kinds faiths places moved) (6) (nI v) j = mR stp laws z v fogs arms kinds faiths places moved j) ?_ ?_ ?_ ?_ ?_ ?_ ?_ ?_ ?_ ?_ j
  · rw [pk_un (by omega)]; rfl
  · intro x hx
    rw [pk_un (by omega), mR_law hx, mR_law hx]
  · rw [pk_un (by omega)]; rfl
  · rw [pk_us]; rfl
  · intro x hx
    rw [pk_un (by omega), mR_fog hx, mR_fog hx]
  · intro x hx
    rw [pk_un (by omega), mR_arm hx, mR_arm hx]
  · intro x
    rw [pk_un (by omega), mR_kd, mR_kd]
  · intro x
    rw [pk_un (by omega), mR_fa, mR_fa]
  · intro x
    rw [pk_un (by omega), mR_pl, mR_pl]
  · intro x
    rw [pk_un (by omega), mR_mo, mR_mo]
theorem mU_law {stp cnt : Nat} {z : Int32} {laws fogs arms kinds faiths places moved : Nat → Int32} {r : Nat} {v : Int32} (h : r < 4) : upd (mR stp laws z cnt fogs arms kinds faiths places moved) (1 + r) v = mR stp (upd laws r v) z cnt fogs arms kinds faiths places moved := by
  funext j
  refine mR_all (P := fun j => upd (mR stp laws z cnt fogs arms kinds faiths places moved) (1 + r) v j = mR stp (upd laws r v) z cnt fogs arms kinds faiths places moved j) ?_ ?_ ?_ ?_ ?_ ?_ ?_ ?_ ?_ ?_ j
  · rw [pk_un (by omega)]; rfl
  · intro x hx
    by_cases e : x = r
    · subst e; rw [pk_us, mR_law hx, pk_us]
    · rw [pk_un (by omega), mR_law hx, mR_law hx, pk_un e]
  · rw [pk_un (by omega)]; rfl
  · rw [pk_un (by omega)]; rfl
  · intro x hx
    rw [pk_un (by omega), mR_fog hx, mR_fog hx]
  · intro x hx
    rw [pk_un (by omega), mR_arm hx, mR_arm hx]
  · intro x
    rw [pk_un (by omega), mR_kd, mR_kd]
  · intro x
    rw [pk_un (by omega), mR_fa, mR_fa]
  · intro x
    rw [pk_un (by omega), mR_pl, mR_pl]
  · intro x
    rw [pk_un (by omega), mR_mo, mR_mo]
theorem mU_fog {stp cnt : Nat} {z : Int32} {laws fogs arms kinds faiths places moved : Nat → Int32} {r : Nat} {v : Int32} (h : r < 6) : upd (mR stp laws z cnt fogs arms kinds faiths places moved) (7 + r) v = mR stp laws z cnt (upd fogs r v) arms kinds faiths places moved := by
  funext j
  refine mR_all (P := fun j => upd (mR stp laws z cnt fogs arms kinds faiths places moved) (7 + r) v j = mR stp laws z cnt (upd fogs r v) arms kinds faiths places moved j) ?_ ?_ ?_ ?_ ?_ ?_ ?_ ?_ ?_ ?_ j
  · rw [pk_un (by omega)]; rfl
  · intro x hx
    rw [pk_un (by omega), mR_law hx, mR_law hx]
  · rw [pk_un (by omega)]; rfl
  · rw [pk_un (by omega)]; rfl
  · intro x hx
    by_cases e : x = r
    · subst e; rw [pk_us, mR_fog hx, pk_us]
    · rw [pk_un (by omega), mR_fog hx, mR_fog hx, pk_un e]
  · intro x hx
    rw [pk_un (by omega), mR_arm hx, mR_arm hx]
  · intro x
    rw [pk_un (by omega), mR_kd, mR_kd]
  · intro x
    rw [pk_un (by omega), mR_fa, mR_fa]
  · intro x
    rw [pk_un (by omega), mR_pl, mR_pl]
  · intro x
    rw [pk_un (by omega), mR_mo, mR_mo]
theorem mU_arm {stp cnt : Nat} {z : Int32} {laws fogs arms kinds faiths places moved : Nat → Int32} {r : Nat} {v : Int32} (h : r < 6) : upd (mR stp laws z cnt fogs arms kinds faiths places moved) (13 + r) v = mR stp laws z cnt fogs (upd arms r v) kinds faiths places moved := by
  funext j
  refine mR_all (P := fun j => upd (mR stp laws z cnt fogs arms kinds faiths places moved) (13 + r) v j = mR stp laws z cnt fogs (upd arms r v) kinds faiths places moved j) ?_ ?_ ?_ ?_ ?_ ?_ ?_ ?_ ?_ ?_ j
  · rw [pk_un (by omega)]; rfl
  · intro x hx
    rw [pk_un (by omega), mR_law hx, mR_law hx]
  · rw [pk_un (by omega)]; rfl
  · rw [pk_un (by omega)]; rfl
  · intro x hx
    rw [pk_un (by omega), mR_fog hx, mR_fog hx]
  · intro x hx
    by_cases e : x = r
    · subst e; rw [pk_us, mR_arm hx, pk_us]
    · rw [pk_un (by omega), mR_arm hx, mR_arm hx, pk_un e]
  · intro x
    rw [pk_un (by omega), mR_kd, mR_kd]
  · intro x
    rw [pk_un (by omega), mR_fa, mR_fa]
  · intro x
    rw [pk_un (by omega), mR_pl, mR_pl]
  · intro x
    rw [pk_un (by omega), mR_mo, mR_mo]
theorem mU_kd {stp cnt : Nat} {z : Int32} {laws fogs arms kinds faiths places moved : Nat → Int32} {q : Nat} {v : Int32} : upd (mR stp laws z cnt fogs arms kinds faiths places moved) (19 + 4 * q) v = mR stp laws z cnt fogs arms (upd kinds q v) faiths places moved := by
  funext j
  refine mR_all (P := fun j => upd (mR stp laws z cnt fogs arms kinds faiths places moved) (19 + 4 * q) v j = mR stp laws z cnt fogs arms (upd kinds q v) faiths places moved j) ?_ ?_ ?_ ?_ ?_ ?_ ?_ ?_ ?_ ?_ j
  · rw [pk_un (by omega)]; rfl
  · intro x hx
    rw [pk_un (by omega), mR_law hx, mR_law hx]
  · rw [pk_un (by omega)]; rfl
  · rw [pk_un (by omega)]; rfl
  · intro x hx
    rw [pk_un (by omega), mR_fog hx, mR_fog hx]
  · intro x hx
    rw [pk_un (by omega), mR_arm hx, mR_arm hx]
  · intro x
    by_cases e : x = q
    · subst e; rw [pk_us, mR_kd, pk_us]
    · rw [pk_un (by omega), mR_kd, mR_kd, pk_un e]
  · intro x
    rw [pk_un (by omega), mR_fa, mR_fa]
  · intro x
    rw [pk_un (by omega), mR_pl, mR_pl]
  · intro x
    rw [pk_un (by omega), mR_mo, mR_mo]
theorem mU_fa {stp cnt : Nat} {z : Int32} {laws fogs arms kinds faiths places moved : Nat → Int32} {q : Nat} {v : Int32} : upd (mR stp laws z cnt fogs arms kinds faiths places moved) (19 + 4 * q + 1) v = mR stp laws z cnt fogs arms kinds (upd faiths q v) places moved := by
  funext j
  refine mR_all (P := fun j => upd (mR stp laws z cnt fogs arms kinds faiths places moved) (19 + 4 * q + 1) v j = mR stp laws z cnt fogs arms kinds (upd faiths q v) places moved j) ?_ ?_ ?_ ?_ ?_ ?_ ?_ ?_ ?_ ?_ j
  · rw [pk_un (by omega)]; rfl
  · intro x hx
    rw [pk_un (by omega), mR_law hx, mR_law hx]
  · rw [pk_un (by omega)]; rfl
  · rw [pk_un (by omega)]; rfl
  · intro x hx
    rw [pk_un (by omega), mR_fog hx, mR_fog hx]
  · intro x hx
    rw [pk_un (by omega), mR_arm hx, mR_arm hx]
  · intro x
    rw [pk_un (by omega), mR_kd, mR_kd]
  · intro x
    by_cases e : x = q
    · subst e; rw [pk_us, mR_fa, pk_us]
    · rw [pk_un (by omega), mR_fa, mR_fa, pk_un e]
  · intro x
    rw [pk_un (by omega), mR_pl, mR_pl]
  · intro x
    rw [pk_un (by omega), mR_mo, mR_mo]
theorem mU_pl {stp cnt : Nat} {z : Int32} {laws fogs arms kinds faiths places moved : Nat → Int32} {q : Nat} {v : Int32} : upd (mR stp laws z cnt fogs arms kinds faiths places moved) (19 + 4 * q + 2) v = mR stp laws z cnt fogs arms kinds faiths (upd places q v) moved := by
  funext j
  refine mR_all (P := fun j => upd (mR stp laws z cnt fogs arms kinds faiths places moved) (19 + 4 * q + 2) v j = mR stp laws z cnt fogs arms kinds faiths (upd places q v) moved j) ?_ ?_ ?_ ?_ ?_ ?_ ?_ ?_ ?_ ?_ j
  · rw [pk_un (by omega)]; rfl
  · intro x hx
    rw [pk_un (by omega), mR_law hx, mR_law hx]
  · rw [pk_un (by omega)]; rfl
  · rw [pk_un (by omega)]; rfl
  · intro x hx
    rw [pk_un (by omega), mR_fog hx, mR_fog hx]
  · intro x hx
    rw [pk_un (by omega), mR_arm hx, mR_arm hx]
  · intro x
    rw [pk_un (by omega), mR_kd, mR_kd]
  · intro x
    rw [pk_un (by omega), mR_fa, mR_fa]
  · intro x
    by_cases e : x = q
    · subst e; rw [pk_us, mR_pl, pk_us]
    · rw [pk_un (by omega), mR_pl, mR_pl, pk_un e]
  · intro x
    rw [pk_un (by omega), mR_mo, mR_mo]
theorem mU_mo {stp cnt : Nat} {z : Int32} {laws fogs arms kinds faiths places moved : Nat → Int32} {q : Nat} {v : Int32} : upd (mR stp laws z cnt fogs arms kinds faiths places moved) (19 + 4 * q + 3) v = mR stp laws z cnt fogs arms kinds faiths places (upd moved q v) := by
  funext j
  refine mR_all (P := fun j => upd (mR stp laws z cnt fogs arms kinds faiths places moved) (19 + 4 * q + 3) v j = mR stp laws z cnt fogs arms kinds faiths places (upd moved q v) j) ?_ ?_ ?_ ?_ ?_ ?_ ?_ ?_ ?_ ?_ j
  · rw [pk_un (by omega)]; rfl
  · intro x hx
    rw [pk_un (by omega), mR_law hx, mR_law hx]
  · rw [pk_un (by omega)]; rfl
  · rw [pk_un (by omega)]; rfl
  · intro x hx
    rw [pk_un (by omega), mR_fog hx, mR_fog hx]
  · intro x hx
    rw [pk_un (by omega), mR_arm hx, mR_arm hx]
  · intro x
    rw [pk_un (by omega), mR_kd, mR_kd]
  · intro x
    rw [pk_un (by omega), mR_fa, mR_fa]
  · intro x
    rw [pk_un (by omega), mR_pl, mR_pl]
  · intro x
    by_cases e : x = q
    · subst e; rw [pk_us, mR_mo, pk_us]
    · rw [pk_un (by omega), mR_mo, mR_mo, pk_un e]
theorem mU_kd0 {stp cnt : Nat} {z : Int32} {laws fogs arms kinds faiths places moved : Nat → Int32} {q : Nat} {v : Int32} : upd (mR stp laws z cnt fogs arms kinds faiths places moved) (19 + 4 * q + 0) v = mR stp laws z cnt fogs arms (upd kinds q v) faiths places moved := mU_kd
section CORE30
variable {p : Program} {l : Launch} {e : Env} {R : Room} {s : State} {m : MethodId} {args : Array Value} {below : List Frame} {meth : Method} {c : Code} {H : Heap} {locs : List Loc} {cells slots : Nat} {Q : State → Prop}
variable {cc : ByteArray} {nL pc : Nat} {Ts : List Cond} {own : String} {ls : Array Slot} {rest st0 : List Value} {g : GG} {A : Nat → Prop} {W0 : va_W} {a : Nat}
/-- int[] written, what it holds then said otherwise -/
theorem rse (hf : CallFix p m c cc nL s args Ts own) (hk : kk g s) (hw : hv g A s H locs W0) (q0 : Nat) {n : Nat} {f f' : Nat → Int32} (ha : W0[q0]? = some (a, .inl (gI g, n, .inl f))) {i x : Int32} {j : Nat} (hin : vp_in i n) (hj : i.toNatClampNeg = j) (he : upd f j x = f') (hdg : decode cc pc = .ok (.iastore, 1)) {W' : va_W} (hW' : W0.set q0 (a, .inl (gI g, n, .inl f')) = W')
    (kk : ∀ (H1 : Heap) (locs1 : List Loc), hv g A s H1 locs1 W' → W p l e R s m args below meth c H1 locs1 cells slots Q (F0 m (pc + 1) ls rest)) : W p l e R s m args below meth c H locs cells slots Q (F0 m pc ls (.int x :: .int i :: .ref a :: rest)) := by
  subst he; exact rsj hf hk hw q0 ha hin hj hdg hW' kk
end CORE30
/-- within: the contrary of outside -/
def nO (v lo hi : Int32) : Int32 := if f_X10_isOutside v lo hi = 0 then 1 else 0
theorem nO_0 {v lo hi : Int32} (h : nO v lo hi = 0) : ¬ f_X10_isOutside v lo hi = 0 := fun q => by unfold nO at h; rw [if_pos q] at h; cases h
theorem nO_1 {v lo hi : Int32} (h : ¬ nO v lo hi = 0) : f_X10_isOutside v lo hi = 0 := by
  by_cases q : f_X10_isOutside v lo hi = 0
  · exact q
  · unfold nO at h; rw [if_neg q] at h; exact absurd rfl h
theorem nO_01 (v lo hi : Int32) : nO v lo hi = 0 ∨ nO v lo hi = 1 := by unfold nO; split; exact Or.inr rfl; exact Or.inl rfl
theorem nO_has {c : Nat} (hc : c ≤ 8) (x : Int32) : nO x 0 (nI c - 1) = f_X8_has c x := by
  have hO : f_X10_isOutside x 0 (nI c - 1) = if x < 0 then 1 else if x ≤ nI c - 1 then 0 else 1 := rfl
  have hH : f_X8_has c x = if x < 0 then 0 else if nI c ≤ x then 0 else 1 := rfl
  unfold nO
  rw [hO, hH]
  by_cases h0 : x < 0
  · rw [if_pos h0, if_pos h0]; rfl
  · rw [if_neg h0, if_neg h0]
    obtain ⟨j, hj, rfl⟩ := nI_of h0
    cases c with
    | zero =>
      rw [if_neg (fun q => absurd (Int32.le_trans (nI_pos' hj) q) (by decide)), if_pos (show nI 0 ≤ nI j from nI_pos' hj)]; rfl
    | succ r =>
      rw [nI_pred]
      by_cases h1 : r < j
      · rw [if_neg (nI_ge h1 hj), if_pos (nI_le (show r + 1 ≤ j by omega) hj)]; rfl
      · rw [if_pos (nI_le (show j ≤ r by omega) (by omega)), if_neg (nI_ge (show j < r + 1 by omega) (by omega))]; rfl
def hdF (v most : Int32) : Int32 := if v < 0 then 0 else if most < v then most else v
def plOk (p : Int32) : Prop := 0 ≤ p.toInt ∧ p.toInt ≤ 12
def moOk (p : Int32) : Prop := 0 ≤ p.toInt ∧ p.toInt ≤ 9999
theorem i_lt {a b : Int32} : a < b ↔ a.toInt < b.toInt := Int32.lt_iff_toInt_lt
theorem i_le {a b : Int32} : a ≤ b ↔ a.toInt ≤ b.toInt := Int32.le_iff_toInt_le
theorem i_eq {a b : Int32} (h : a.toInt = b.toInt) : a = b := Int32.toInt_inj.mp h
theorem i_add {x y : Int32} (h1 : -2147483648 ≤ x.toInt + y.toInt) (h2 : x.toInt + y.toInt < 2147483648) : (x + y).toInt = x.toInt + y.toInt := by
  rw [Int32.toInt_add]; exact Int.bmod_eq_of_le (by omega) (by omega)
theorem i_sub {x y : Int32} (h1 : -2147483648 ≤ x.toInt - y.toInt) (h2 : x.toInt - y.toInt < 2147483648) : (x - y).toInt = x.toInt - y.toInt := by
  rw [Int32.toInt_sub]; exact Int.bmod_eq_of_le (by omega) (by omega)
theorem i_0 : (0 : Int32).toInt = 0 := rfl
theorem i_1 : (1 : Int32).toInt = 1 := rfl
theorem i_12 : (12 : Int32).toInt = 12 := rfl
theorem i_99 : (99 : Int32).toInt = 99 := rfl
theorem i_9999 : (9999 : Int32).toInt = 9999 := rfl
theorem i_m1 : (-1 : Int32).toInt = -1 := rfl
theorem hd_hF (v : Int32) : hdF v 99 = hF v := by
  unfold hdF hF mmax32 mmin32
  by_cases h0 : v < 0
  · rw [if_pos h0]
    rw [if_pos (show v < 99 by rw [i_lt] at h0 ⊢; rw [i_0] at h0; rw [i_99]; omega)]
    rw [if_neg (show ¬ (0 : Int32) < v by rw [i_lt] at h0 ⊢; rw [i_0] at h0 ⊢; omega)]
  · rw [if_neg h0]
    by_cases h1 : (99 : Int32) < v
    · rw [if_pos h1, if_neg (show ¬ v < 99 by rw [i_lt] at h1 ⊢; omega)]; rfl
    · rw [if_neg h1]
      by_cases h2 : v < 99
      · rw [if_pos h2]
        by_cases h3 : (0 : Int32) < v
        · rw [if_pos h3]
        · rw [if_neg h3]; apply i_eq; rw [i_lt] at h0 h3; rw [i_0] at h0 h3 ⊢; omega
      · rw [if_neg h2, if_pos (by decide)]; apply i_eq; rw [i_lt] at h1 h2; rw [i_99] at h1 h2 ⊢; omega
theorem hd_mo1 {x : Int32} (h : moOk x) : hdF (x + 1) 9999 = mmin32 9999 (x + 1) := by
  obtain ⟨h1, h2⟩ := h
  have e : (x + 1).toInt = x.toInt + 1 := i_add (by rw [i_1]; omega) (by rw [i_1]; omega)
  unfold hdF mmin32
  rw [if_neg (show ¬ x + 1 < 0 by rw [i_lt, e, i_0]; omega)]
  by_cases h3 : (9999 : Int32) < x + 1
  · rw [if_pos h3, if_neg (show ¬ x + 1 < 9999 by rw [i_lt] at h3 ⊢; omega)]
  · rw [if_neg h3]
    by_cases h4 : x + 1 < 9999
    · rw [if_pos h4]
    · rw [if_neg h4]; apply i_eq; rw [i_lt] at h3 h4; rw [i_9999] at h3 h4 ⊢; omega
theorem hd_in {x M : Int32} (h1 : 0 ≤ x.toInt) (h2 : x.toInt ≤ M.toInt) : hdF x M = x := by
  unfold hdF
  rw [if_neg (show ¬ x < 0 by rw [i_lt, i_0]; omega), if_neg (show ¬ M < x by rw [i_lt]; omega)]
theorem ad0 (x : Int32) : x + 0 = x := Int32.add_zero x
theorem hd_mo0 {x : Int32} (h : moOk x) : hdF (x + 0) 9999 = x := by rw [ad0]; exact hd_in h.1 h.2
theorem hd_pl0 {x : Int32} (h : plOk x) : hdF (x + 0) 12 = x := by rw [ad0]; exact hd_in h.1 h.2
theorem hd_plm {x : Int32} (h : plOk x) : hdF (x + (-1)) 12 = mmax32 0 (x - 1) := by
  obtain ⟨h1, h2⟩ := h
  have e : (x + (-1)).toInt = x.toInt - 1 := by rw [i_add (by rw [i_m1]; omega) (by rw [i_m1]; omega), i_m1]; omega
  have e2 : (x - 1).toInt = x.toInt - 1 := by rw [i_sub (by rw [i_1]; omega) (by rw [i_1]; omega), i_1]
  have e3 : x + (-1) = x - 1 := i_eq (by rw [e, e2])
  rw [e3]
  unfold hdF mmax32
  by_cases h3 : x - 1 < 0
  · rw [if_pos h3, if_neg (show ¬ (0 : Int32) < x - 1 by rw [i_lt] at h3 ⊢; rw [i_0] at h3 ⊢; omega)]
  · rw [if_neg h3, if_neg (show ¬ (12 : Int32) < x - 1 by rw [i_lt, i_12, e2]; omega)]
    by_cases h4 : (0 : Int32) < x - 1
    · rw [if_pos h4]
    · rw [if_neg h4]; apply i_eq; rw [i_lt] at h3 h4; rw [i_0] at h3 h4 ⊢; omega
def paOk (p : Int32) : Prop := 0 ≤ p.toInt ∧ p.toInt ≤ 3
theorem paceF_ok (k st se : Int32) : paOk (paceF k st se) := by
  unfold paceF
  split
  · exact ⟨by decide, by decide⟩
  · split
    · exact ⟨by decide, by decide⟩
    · split
      · split
        · exact ⟨by decide, by decide⟩
        · exact ⟨by decide, by decide⟩
      · split
        · split
          · exact ⟨by decide, by decide⟩
          · exact ⟨by decide, by decide⟩
        · exact ⟨by decide, by decide⟩
theorem hd_plp {x y : Int32} (h : plOk x) (hy : paOk y) : hdF (x + y) 12 = mmin32 12 (x + y) := by
  obtain ⟨h1, h2⟩ := h
  obtain ⟨h3, h4⟩ := hy
  have e : (x + y).toInt = x.toInt + y.toInt := i_add (by omega) (by omega)
  unfold hdF mmin32
  rw [if_neg (show ¬ x + y < 0 by rw [i_lt, e, i_0]; omega)]
  by_cases h5 : (12 : Int32) < x + y
  · rw [if_pos h5, if_neg (show ¬ x + y < 12 by rw [i_lt] at h5 ⊢; omega)]
  · rw [if_neg h5]
    by_cases h6 : x + y < 12
    · rw [if_pos h6]
    · rw [if_neg h6]; apply i_eq; rw [i_lt] at h5 h6; rw [i_12] at h5 h6 ⊢; omega
theorem mmin_ok {x y : Int32} (h : plOk x) (hy : paOk y) : plOk (mmin32 12 (x + y)) := by
  obtain ⟨h1, h2⟩ := h
  obtain ⟨h3, h4⟩ := hy
  have e : (x + y).toInt = x.toInt + y.toInt := i_add (by omega) (by omega)
  unfold mmin32
  by_cases h6 : x + y < 12
  · rw [if_pos h6]; rw [i_lt, i_12] at h6; exact ⟨by rw [e]; omega, by omega⟩
  · rw [if_neg h6]; exact ⟨by decide, by decide⟩
theorem mmax_ok {x : Int32} (h : plOk x) : plOk (mmax32 0 (x - 1)) := by
  obtain ⟨h1, h2⟩ := h
  have e2 : (x - 1).toInt = x.toInt - 1 := by rw [i_sub (by rw [i_1]; omega) (by rw [i_1]; omega), i_1]
  unfold mmax32
  by_cases h6 : (0 : Int32) < x - 1
  · rw [if_pos h6]; rw [i_lt, i_0] at h6; exact ⟨by omega, by rw [e2]; omega⟩
  · rw [if_neg h6]; exact ⟨by decide, by decide⟩
theorem vP_ok {kd st se dr lo fa pl : Int32} (h : plOk pl) : plOk (vP kd st se dr lo fa pl) := by
  unfold vP
  split
  · split
    · exact mmin_ok h (paceF_ok _ _ _)
    · exact h
  · exact mmax_ok h
theorem n1P_ok {kd fog ar hum st dr lo fa pl : Int32} (h : plOk pl) : plOk (n1P kd fog ar hum st dr lo fa pl) := by
  unfold n1P
  split
  · exact vP_ok h
  · exact h
theorem vM_ok {kd fog ar hum pl mo : Int32} (h : moOk mo) : moOk (vM kd fog ar hum pl mo) := by
  unfold vM
  split
  · exact h
  · obtain ⟨h1, h2⟩ := h
    have e : (mo + 1).toInt = mo.toInt + 1 := i_add (by rw [i_1]; omega) (by rw [i_1]; omega)
    unfold mmin32
    by_cases h4 : mo + 1 < 9999
    · rw [if_pos h4]; rw [i_lt, i_9999] at h4; exact ⟨by rw [e]; omega, by omega⟩
    · rw [if_neg h4]; exact ⟨by decide, by decide⟩
theorem n1M_ok {kd fog ar hum pl mo : Int32} (h : moOk mo) : moOk (n1M kd fog ar hum pl mo) := by
  unfold n1M
  split
  · exact vM_ok h
  · exact h
theorem thr_e {p : Int32} (h : p = 12) : thrF p = 1 := by rw [h]; rfl
theorem thr_n {p : Int32} (ho : plOk p) (h : ¬ p = 12) : thrF p = 0 := by
  unfold thrF
  refine if_pos ?_
  rw [i_lt, i_12]
  have : p.toInt ≠ 12 := fun q => h (i_eq (by rw [q, i_12]))
  have := ho.2
  omega
/-- the model's deeds: 0 goes, 1 sits, 2 back -/
def dM (dr lo fa : Int32) : Int32 := if dr ≤ fa then (if fa ≤ lo then 0 else 1) else 2
def n1E (kd fog ar hum dr lo fa pl : Int32) : Int32 := if thrF pl = 0 then dM dr lo (vF kd fog ar hum fa pl) else 0
def goE (laws fogs arms : Nat → Int32) (st : Nat) (kinds faiths places dd : Nat → Int32) (j : Nat) : Nat → Int32 := fun i => if i < j then n1E (kinds i) (fogs (st % 6)) (arms (st % 6)) (laws 0) (laws 1) (laws 2) (faiths i) (places i) else dd i
theorem goE_s {laws fogs arms : Nat → Int32} {st : Nat} {kinds faiths places dd d : Nat → Int32} {k : Nat} {x : Int32} (ed : d = goE laws fogs arms st kinds faiths places dd k) (hx : x = n1E (kinds k) (fogs (st % 6)) (arms (st % 6)) (laws 0) (laws 1) (laws 2) (faiths k) (places k)) : upd d k x = goE laws fogs arms st kinds faiths places dd (k + 1) := by
  rw [hx]; exact ga_s ed
def stE (laws fogs arms kinds : Nat → Int32) (cnt st : Nat) (fa pl mo dd : Nat → Int32) : Nat → Nat → Int32
  | 0 => dd
  | k + 1 => goE laws fogs arms (st + k) kinds (stA laws fogs arms kinds cnt st fa pl mo k).1 (stA laws fogs arms kinds cnt st fa pl mo k).2.1 (stE laws fogs arms kinds cnt st fa pl mo dd k) cnt
theorem stA_ok {laws fogs arms kinds : Nat → Int32} {cnt st : Nat} {fa pl mo : Nat → Int32} (hp : ∀ j, j < cnt → plOk (pl j)) (hm : ∀ j, j < cnt → moOk (mo j)) : ∀ k, (∀ j, j < cnt → plOk ((stA laws fogs arms kinds cnt st fa pl mo k).2.1 j)) ∧ ∀ j, j < cnt → moOk ((stA laws fogs arms kinds cnt st fa pl mo k).2.2 j)
  | 0 => ⟨hp, hm⟩
  | k + 1 => by
    have ih := stA_ok (laws := laws) (fogs := fogs) (arms := arms) (kinds := kinds) (st := st) (fa := fa) hp hm k
    refine ⟨fun j hj => ?_, fun j hj => ?_⟩
    · show plOk (goP _ _ _ _ _ _ _ cnt j)
      unfold goP
      simp only [if_pos hj]
      exact n1P_ok (ih.1 j hj)
    · show moOk (goM _ _ _ _ _ _ _ cnt j)
      unfold goM
      simp only [if_pos hj]
      exact n1M_ok (ih.2 j hj)
def onS (x : Int32) : Nat → Int32
  | 0 => x
  | k + 1 => onS x k &&& (onS x k - 1)
def onK (v : Nat) : Nat := v % 2 + v / 2 % 2 + v / 4 % 2 + v / 8 % 2 + v / 16 % 2 + v / 32 % 2 + v / 64 % 2 + v / 128 % 2
theorem onK_ok : ∀ v, v < 256 → (onS (nI v) (onK v) = 0 ∧ bcF (nI v) = nI (onK v) ∧ onK v ≤ 8) ∧ ∀ k, k < 8 → k < onK v → ¬ onS (nI v) k = 0 := by decide +kernel
theorem sh_lt : ∀ n, n < 8 → ∀ v, v < 2 ^ n → ∃ w, w < 2 ^ (n + 1) ∧ nI v ||| (1 <<< (nI n &&& 31)) = nI w := by
  intro n hn v hv
  refine ⟨v ||| 2 ^ n, Nat.or_lt_two_pow (Nat.lt_of_lt_of_le hv (Nat.pow_le_pow_right (by decide) (by omega))) (Nat.pow_lt_pow_right (by decide) (by omega)), ?_⟩
  have h1 : ∀ n, n < 8 → (1 : Int32) <<< (nI n &&& 31) = nI (2 ^ n) := by decide +kernel
  rw [h1 n hn]
  apply Int32.toBitVec_inj.1
  show BitVec.ofNat 32 v ||| BitVec.ofNat 32 (2 ^ n) = BitVec.ofNat 32 (v ||| 2 ^ n)
  exact (BitVec.ofNat_or ..).symm
theorem setTo_n (q : Nat → Int32) : ∀ n, n ≤ 8 → ∃ v, v < 2 ^ n ∧ setTo q n = nI v
  | 0, _ => ⟨0, by decide, rfl⟩
  | n + 1, h => by
    obtain ⟨v, hv, e⟩ := setTo_n q n (by omega)
    by_cases hq : q n = 0
    · exact ⟨v, Nat.lt_of_lt_of_le hv (Nat.pow_le_pow_right (by decide) (by omega)), (if_pos hq).trans e⟩
    · obtain ⟨w, hw, e2⟩ := sh_lt n (by omega) v hv
      exact ⟨w, hw, (if_neg hq).trans (by rw [e]; exact e2)⟩
theorem setTo_ix (q : Nat → Int32) {n : Nat} (h : n ≤ 8) : setTo q n = nI (ix (setTo q n)) ∧ ix (setTo q n) < 256 := by
  obtain ⟨v, hv, e⟩ := setTo_n q n h
  have h2 : v < 256 := Nat.lt_of_lt_of_le hv (Nat.pow_le_pow_right (n := 2) (by decide) h)
  rw [e]
  have e2 : ix (nI v) = v := nI_clamp (by omega)
  rw [e2]
  exact ⟨rfl, h2⟩
theorem or0 (x : Int32) : x ||| 0 = x := by apply Int32.toBitVec_inj.1; simp
abbrev rmX11_in1 : Room := { frames := 0, cells := 0, slots := 0, locals := 0 }
set_option maxHeartbeats 4000000 in
set_option maxRecDepth 100000 in
theorem c_X11_in1 (l : Launch) (g : GG) (v : Int32) (lo : Int32) (hi : Int32) : mt l g yX11_in1 wsX11_in1 rmX11_in1 [.int v, .int lo, .int hi] [] (some (.int (nO v lo hi))) [] := by
  refine mt.of (cc := cX11_in1) (nL := 3) (ret := (some .boolean)) (own := RX11) (by decide +kernel) rfl rfl (show ([] : List Nat) = [] from rfl) (Nat.le_of_ble_eq_true rfl) (fun p e s m below meth c hf hr hlk _ hk hst hw ls hl => ?_)
  have hx := hf.1
  have hb := hf.2.1
  have hts := hf.2.2.2.2
  have hl : lv_has ls 3 [(0, .int v), (1, .int lo), (2, .int hi)] := hl
  refine lv_iload_n hx hb dX11_in1_0 rfl (lv_at hl 0 rfl) ?_
  refine lv_iload_n hx hb dX11_in1_1 rfl (lv_at hl 1 rfl) ?_
  refine lv_icmp_lt (tgt := 14) hx hb dX11_in1_2 (by decide) (fun c_1 => ?_) (fun c_1 => ?_)
  · refine lv_iconst (v := 0) hx hb dX11_in1_14 (by decide) ?_
    exact re_z hf hr hlk hw (rfl) (by unfold nO f_X10_isOutside; rw [if_pos c_1]; rfl) (rfl) dX11_in1_15
  · refine lv_iload_n hx hb dX11_in1_5 rfl (lv_at hl 0 rfl) ?_
    refine lv_iload_n hx hb dX11_in1_6 rfl (lv_at hl 2 rfl) ?_
    refine lv_icmp_gt (tgt := 14) hx hb dX11_in1_7 (by decide) (fun c_2 => ?_) (fun c_2 => ?_)
    · refine lv_iconst (v := 0) hx hb dX11_in1_14 (by decide) ?_
      exact re_z hf hr hlk hw (rfl) (by unfold nO f_X10_isOutside; rw [if_neg c_1, if_neg (Int32.not_le.mpr c_2)]; rfl) (rfl) dX11_in1_15
    · refine lv_iconst (v := 1) hx hb dX11_in1_10 (by decide) ?_
      refine lv_goto (tgt := 15) hx hb dX11_in1_11 (by decide) ?_
      exact re_z hf hr hlk hw (rfl) (by unfold nO f_X10_isOutside; rw [if_neg c_1, if_pos (Int32.not_lt.mp c_2)]; rfl) (rfl) dX11_in1_15
abbrev rmX11_held : Room := { frames := 0, cells := 0, slots := 0, locals := 0 }
set_option maxHeartbeats 4000000 in
set_option maxRecDepth 100000 in
theorem c_X11_held (l : Launch) (g : GG) (v : Int32) (most : Int32) : mt l g yX11_held wsX11_held rmX11_held [.int v, .int most] [] (some (.int (hdF v most))) [] := by
  refine mt.of (cc := cX11_held) (nL := 2) (ret := (some .int)) (own := RX11) (by decide +kernel) rfl rfl (show ([] : List Nat) = [] from rfl) (Nat.le_of_ble_eq_true rfl) (fun p e s m below meth c hf hr hlk _ hk hst hw ls hl => ?_)
  have hx := hf.1
  have hb := hf.2.1
  have hts := hf.2.2.2.2
  have hl : lv_has ls 2 [(0, .int v), (1, .int most)] := hl
  refine lv_iload_n hx hb dX11_held_0 rfl (lv_at hl 0 rfl) ?_
  refine lv_if_ge (tgt := 8) hx hb dX11_held_1 (by decide) (fun c_1 => ?_) (fun c_1 => ?_)
  · refine lv_iload_n hx hb dX11_held_8 rfl (lv_at hl 0 rfl) ?_
    refine lv_iload_n hx hb dX11_held_9 rfl (lv_at hl 1 rfl) ?_
    refine lv_icmp_le (tgt := 17) hx hb dX11_held_10 (by decide) (fun c_2 => ?_) (fun c_2 => ?_)
    · refine lv_iload_n hx hb dX11_held_17 rfl (lv_at hl 0 rfl) ?_
      exact re_i hf hr hlk hw (by unfold hdF; rw [if_neg (Int32.not_lt.mpr c_1), if_neg (Int32.not_lt.mpr c_2)]) (rfl) dX11_held_18
    · refine lv_iload_n hx hb dX11_held_13 rfl (lv_at hl 1 rfl) ?_
      refine lv_goto (tgt := 18) hx hb dX11_held_14 (by decide) ?_
      exact re_i hf hr hlk hw (by unfold hdF; rw [if_neg (Int32.not_lt.mpr c_1), if_pos (Int32.not_le.mp c_2)]) (rfl) dX11_held_18
  · refine lv_iconst (v := 0) hx hb dX11_held_4 (by decide) ?_
    refine lv_goto (tgt := 18) hx hb dX11_held_5 (by decide) ?_
    exact re_i hf hr hlk hw (by unfold hdF; rw [if_pos (Int32.not_le.mp c_1)]) (rfl) dX11_held_18
abbrev rmX11_copies : Room := { frames := 0, cells := 0, slots := 0, locals := 0 }
set_option maxHeartbeats 4000000 in
set_option maxRecDepth 100000 in
theorem c_X11_copies (l : Launch) (g : GG) (af : Nat) (at_ : Nat) (fa : Nat → Int32) (fb : Nat → Int32) : mt l g yX11_copies wsX11_copies rmX11_copies [.ref af, .ref at_] [cin g af 51 fa, cin g at_ 51 fb] none [cin g af 51 fa, cin g at_ 51 fa] := by
  refine mt.of (cc := cX11_copies) (nL := 3) (ret := none) (own := RX11) (by decide +kernel) rfl rfl (show ([af, at_] : List Nat) = [af, at_] from rfl) (Nat.le_of_ble_eq_true rfl) (fun p e s m below meth c hf hr hlk _ hk hst hw ls hl => ?_)
  have hx := hf.1
  have hb := hf.2.1
  have hts := hf.2.2.2.2
  have hl : lv_has ls 3 [(0, .ref af), (1, .ref at_)] := hl
  refine lv_iconst (v := 0) hx hb dX11_copies_0 (by decide) ?_
  refine lv_istore_n (lv' := [(2, .int 0), (0, .ref af), (1, .ref at_)]) hx hb dX11_copies_1 rfl hl (by decide) rfl (fun ls hl => ?_)
  have lp_2_0 : ∀ (fu k : Nat) (v1 : Nat → Int32), k ≤ 51 → 51 + 1 ≤ k + fu → (v1 = cpT fb fa k) → ∀ (H : Heap) (locs : List Loc), hv g (va_I [cin g af 51 fa, cin g at_ 51 fb]) s H locs [cin g af 51 fa, cin g at_ 51 v1] → ∀ ls : Array Slot, lv_has ls 3 [(2, .int (nI k)), (0, .ref af), (1, .ref at_)] → W p l e rmX11_copies s m ([.ref af, .ref at_] : List Value).toArray below meth c H locs 0 0 (MQ below (mtQ g [cin g af 51 fa, cin g at_ 51 fb] none [cin g af 51 fa, cin g at_ 51 fa]) ([.ref af, .ref at_] : List Value).toArray s 0 0 (va_I [cin g af 51 fa, cin g at_ 51 fb])) (F0 m 2 ls []) := by
    intro fu
    induction fu with
    | zero =>
      intro k v1 h1 h2
      exact absurd h2 (by omega)
    | succ fu ih_2 =>
      intro k v1 hk1_2 hk2_2 e1 H locs hw ls hl
      refine lv_iload_n hx hb dX11_copies_2 rfl (lv_at hl 0 rfl) ?_
      refine lv_bipush (v := 51) hx hb dX11_copies_3 (by decide) ?_
      refine lv_icmp_ge (tgt := 20) hx hb dX11_copies_5 (by decide) (fun c_2 => ?_) (fun c_2 => ?_)
      · have hkE : k = 51 := Nat.le_antisymm hk1_2 ((nI_leI (a := 51) (by omega) (by omega)).mp c_2)
        rw [hkE] at e1
        have hw := hv_ext hw 1 (f' := fa) rfl (by rw [e1]; exact cpT_all) (W' := [cin g af 51 fa, cin g at_ 51 fa]) rfl
        exact re_v hf hr hlk hw (rfl) dX11_copies_20
      · have hkE : k < 51 := Nat.not_le.mp (fun h => c_2 ((nI_leI (a := 51) (by omega) (by omega)).mpr h))
        refine lv_aload_n hx hb dX11_copies_8 rfl (lv_at hl 2 rfl) ?_
        refine lv_iload_n hx hb dX11_copies_9 rfl (lv_at hl 0 rfl) ?_
        refine lv_aload_n hx hb dX11_copies_10 rfl (lv_at hl 1 rfl) ?_
        refine lv_iload_n hx hb dX11_copies_11 rfl (lv_at hl 0 rfl) ?_
        refine rij hf hk hw 0 rfl (j := k) (vp_in_nI (by omega) (by omega)) (nI_clamp (by omega)) dX11_copies_12 ?_
        refine rsj hf hk hw 1 rfl (j := k) (vp_in_nI (by omega) (by omega)) (nI_clamp (by omega)) dX11_copies_13 (W' := [cin g af 51 fa, cin g at_ 51 (upd v1 k (fa k))]) rfl (fun H locs hw => ?_)
        refine lv_iinc (v := nI (k + 1)) (lv' := [(2, .int (nI (k + 1))), (0, .ref af), (1, .ref at_)]) hx hb dX11_copies_14 hl (k := 0) rfl (nI_1 _) (by decide) rfl (fun ls hl => ?_)
        refine lv_goto (tgt := 2) hx hb dX11_copies_17 (by decide) ?_
        exact ih_2 (k + 1) (upd v1 k (fa k)) (by omega) (by omega) (cpT_s e1) _ _ hw _ (lv_sub hl [0, 1, 2] rfl)
  exact lp_2_0 (51 + 1) 0 fb (by omega) (by omega) (cpT_0 _ _) _ _ hw _ (lv_sub hl [0, 1, 2] rfl)
theorem hdS_X11_in1 : yX11_in1.cls ≠ "java/lang/invoke/MethodHandle" ∧ yX11_in1.cls ≠ "java/lang/invoke/VarHandle" ∧ (parseMethodDescriptor yX11_in1.desc).map (fun d => d.parameters.length) = some 3 := by decide +kernel
abbrev rmX11_isGoer : Room := { frames := 1, cells := 0, slots := 0, locals := 22 }
set_option maxHeartbeats 4000000 in
set_option maxRecDepth 100000 in
theorem c_X11_isGoer (l : Launch) (g : GG) (oh : Nat) (os : Nat) (ok : Nat) (ol : Nat) (ord : Nat) (odd : Nat) (otp : Nat) (olt : Nat) (orw : Nat) (oso : Nat) (osz : Nat) (oit : Nat) (oho : Nat) (ohe : Nat) (otr : Nat) (stp : Nat) (laws : Nat → Int32) (z : Int32) (cnt : Nat) (fogs : Nat → Int32) (arms : Nat → Int32) (kinds : Nat → Int32) (faiths : Nat → Int32) (places : Nat → Int32) (moved : Nat → Int32) (isk : Int32) (tpd : Nat) (oat : Int32) (obg : Int32) (otk : Int32) (ovl : Int32) (rmn : Nat) (tcd : Nat) (own_ : Int32) (opt : Int32) (x : Int32) (hc8 : cnt ≤ 8) : mt l g yX11_isGoer wsX11_isGoer rmX11_isGoer [.ref oh, .int x] [cob oh 11 [.ref os, .ref ok, .ref ol, .ref ord, .int isk, .ref odd, .ref otp, .int (nI tpd), .ref olt, .int oat, .int obg, .int otk, .int ovl, .ref orw, .int (nI rmn), .ref oso, .ref osz, .ref oit, .ref oho, .ref ohe, .ref otr, .int (nI tcd), .int own_, .int opt], cin g os 51 (mR stp laws z cnt fogs arms kinds faiths places moved)] (some (.int (f_X8_has cnt x))) [cob oh 11 [.ref os, .ref ok, .ref ol, .ref ord, .int isk, .ref odd, .ref otp, .int (nI tpd), .ref olt, .int oat, .int obg, .int otk, .int ovl, .ref orw, .int (nI rmn), .ref oso, .ref osz, .ref oit, .ref oho, .ref ohe, .ref otr, .int (nI tcd), .int own_, .int opt], cin g os 51 (mR stp laws z cnt fogs arms kinds faiths places moved)] := by
  refine mt.of (cc := cX11_isGoer) (nL := 2) (ret := (some .boolean)) (own := RX11) (by decide +kernel) rfl rfl (show ([oh, os] : List Nat) = [oh, os] from rfl) (Nat.le_of_ble_eq_true rfl) (fun p e s m below meth c hf hr hlk _ hk hst hw ls hl => ?_)
  have hx := hf.1
  have hb := hf.2.1
  have hts := hf.2.2.2.2
  have hl : lv_has ls 2 [(0, .ref oh), (1, .int x)] := hl
  have hinX11 : ∀ w ∈ u_ws RX11 TX11 24, w ∈ wsX11_isGoer := fun w h => List.mem_cons_of_mem _ (List.mem_append_right _ h)
  have w_0 : Cond.fieldLink RX11 9 "LightManModel" "s" "[I" ∈ wsX11_isGoer := List.mem_of_getElem? (i := 1) rfl
  refine lv_iload_n hx hb dX11_isGoer_0 rfl (lv_at hl 1 rfl) ?_
  refine lv_iconst (v := 0) hx hb dX11_isGoer_1 (by decide) ?_
  refine lv_aload_n hx hb dX11_isGoer_2 rfl (lv_at hl 0 rfl) ?_
  refine rg hf hk hw hinX11 0 rfl rfl 0 (by decide) w_0 rfl dX11_isGoer_3 ?_
  refine lv_bipush (v := 6) hx hb dX11_isGoer_6 (by decide) ?_
  refine rij hf hk hw 1 rfl (j := 6) (vp_in_nI (n := 6) (by omega) (by omega)) (rfl) dX11_isGoer_8 ?_
  refine lv_tope (y := nI cnt) (rfl) ?_
  refine lv_iconst (v := 1) hx hb dX11_isGoer_9 (by decide) ?_
  refine lv_isub hx hb dX11_isGoer_10 ?_
  refine mcS hf hk hst hw (c_X11_in1 l g x 0 ((nI cnt) - 1)) (va_cwS 3 hts gX11_isGoer_X11_in1 rfl rfl rfl hdS_X11_in1 ⟨Nat.le_of_ble_eq_true rfl, Nat.le_of_ble_eq_true rfl⟩) [] rfl rfl rfl hl.1 rfl (Nat.le_of_ble_eq_true rfl) dX11_isGoer_11 ⟨Nat.zero_le _, Nat.zero_le _⟩ (W' := [cob oh 11 [.ref os, .ref ok, .ref ol, .ref ord, .int isk, .ref odd, .ref otp, .int (nI tpd), .ref olt, .int oat, .int obg, .int otk, .int ovl, .ref orw, .int (nI rmn), .ref oso, .ref osz, .ref oit, .ref oho, .ref ohe, .ref otr, .int (nI tcd), .int own_, .int opt], cin g os 51 (mR stp laws z cnt fogs arms kinds faiths places moved)]) rfl (fun H locs hw => ?_)
  refine lv_tope (y := f_X8_has cnt x) (nO_has hc8 x) ?_
  exact re_z hf hr hlk hw (nar_z (by rw [← nO_has hc8]; exact nO_01 _ _ _)) (rfl) (rfl) dX11_isGoer_14
abbrev rmX11_get : Room := { frames := 0, cells := 0, slots := 0, locals := 0 }
set_option maxHeartbeats 4000000 in
set_option maxRecDepth 100000 in
theorem c_X11_get0 (l : Launch) (g : GG) (oh : Nat) (os : Nat) (ok : Nat) (ol : Nat) (ord : Nat) (odd : Nat) (otp : Nat) (olt : Nat) (orw : Nat) (oso : Nat) (osz : Nat) (oit : Nat) (oho : Nat) (ohe : Nat) (otr : Nat) (stp : Nat) (laws : Nat → Int32) (z : Int32) (cnt : Nat) (fogs : Nat → Int32) (arms : Nat → Int32) (kinds : Nat → Int32) (faiths : Nat → Int32) (places : Nat → Int32) (moved : Nat → Int32) (isk : Int32) (tpd : Nat) (oat : Int32) (obg : Int32) (otk : Int32) (ovl : Int32) (rmn : Nat) (tcd : Nat) (own_ : Int32) (opt : Int32) (k : Nat) (hk8 : k < 8) : mt l g yX11_get wsX11_get rmX11_get [.ref oh, .int (nI k), .int 0] [cob oh 11 [.ref os, .ref ok, .ref ol, .ref ord, .int isk, .ref odd, .ref otp, .int (nI tpd), .ref olt, .int oat, .int obg, .int otk, .int ovl, .ref orw, .int (nI rmn), .ref oso, .ref osz, .ref oit, .ref oho, .ref ohe, .ref otr, .int (nI tcd), .int own_, .int opt], cin g os 51 (mR stp laws z cnt fogs arms kinds faiths places moved)] (some (.int (kinds k))) [cob oh 11 [.ref os, .ref ok, .ref ol, .ref ord, .int isk, .ref odd, .ref otp, .int (nI tpd), .ref olt, .int oat, .int obg, .int otk, .int ovl, .ref orw, .int (nI rmn), .ref oso, .ref osz, .ref oit, .ref oho, .ref ohe, .ref otr, .int (nI tcd), .int own_, .int opt], cin g os 51 (mR stp laws z cnt fogs arms kinds faiths places moved)] := by
  refine mt.of (cc := cX11_get) (nL := 3) (ret := (some .int)) (own := RX11) (by decide +kernel) rfl rfl (show ([oh, os] : List Nat) = [oh, os] from rfl) (Nat.le_of_ble_eq_true rfl) (fun p e s m below meth c hf hr hlk _ hk hst hw ls hl => ?_)
  have hx := hf.1
  have hb := hf.2.1
  have hts := hf.2.2.2.2
  have hl : lv_has ls 3 [(0, .ref oh), (1, .int (nI k)), (2, .int 0)] := hl
  have hinX11 : ∀ w ∈ u_ws RX11 TX11 24, w ∈ wsX11_get := fun w h => List.mem_cons_of_mem _ (List.mem_append_right _ h)
  have w_0 : Cond.fieldLink RX11 9 "LightManModel" "s" "[I" ∈ wsX11_get := List.mem_of_getElem? (i := 1) rfl
  refine lv_aload_n hx hb dX11_get_0 rfl (lv_at hl 0 rfl) ?_
  refine rg hf hk hw hinX11 0 rfl rfl 0 (by decide) w_0 rfl dX11_get_1 ?_
  refine lv_bipush (v := 19) hx hb dX11_get_4 (by decide) ?_
  refine lv_iconst (v := 4) hx hb dX11_get_6 (by decide) ?_
  refine lv_iload_n hx hb dX11_get_7 rfl (lv_at hl 1 rfl) ?_
  refine lv_imul hx hb dX11_get_8 ?_
  refine lv_tope (y := nI (4 * k)) (pk_mul 4 k) ?_
  refine lv_iadd hx hb dX11_get_9 ?_
  refine lv_tope (y := nI (19 + 4 * k)) (nI_add 19 _) ?_
  refine lv_iload_n hx hb dX11_get_10 rfl (lv_at hl 2 rfl) ?_
  refine lv_iadd hx hb dX11_get_11 ?_
  refine lv_tope (y := nI (19 + 4 * k + 0)) (nI_add _ 0) ?_
  refine rij hf hk hw 1 rfl (j := 19 + 4 * k + 0) (vp_in_nI (by omega) (by omega)) (nI_clamp (by omega)) dX11_get_12 ?_
  refine lv_tope (y := kinds k) (mR_kd0) ?_
  exact re_i hf hr hlk hw (rfl) (rfl) dX11_get_13
set_option maxHeartbeats 4000000 in
set_option maxRecDepth 100000 in
theorem c_X11_get1 (l : Launch) (g : GG) (oh : Nat) (os : Nat) (ok : Nat) (ol : Nat) (ord : Nat) (odd : Nat) (otp : Nat) (olt : Nat) (orw : Nat) (oso : Nat) (osz : Nat) (oit : Nat) (oho : Nat) (ohe : Nat) (otr : Nat) (stp : Nat) (laws : Nat → Int32) (z : Int32) (cnt : Nat) (fogs : Nat → Int32) (arms : Nat → Int32) (kinds : Nat → Int32) (faiths : Nat → Int32) (places : Nat → Int32) (moved : Nat → Int32) (isk : Int32) (tpd : Nat) (oat : Int32) (obg : Int32) (otk : Int32) (ovl : Int32) (rmn : Nat) (tcd : Nat) (own_ : Int32) (opt : Int32) (k : Nat) (hk8 : k < 8) : mt l g yX11_get wsX11_get rmX11_get [.ref oh, .int (nI k), .int 1] [cob oh 11 [.ref os, .ref ok, .ref ol, .ref ord, .int isk, .ref odd, .ref otp, .int (nI tpd), .ref olt, .int oat, .int obg, .int otk, .int ovl, .ref orw, .int (nI rmn), .ref oso, .ref osz, .ref oit, .ref oho, .ref ohe, .ref otr, .int (nI tcd), .int own_, .int opt], cin g os 51 (mR stp laws z cnt fogs arms kinds faiths places moved)] (some (.int (faiths k))) [cob oh 11 [.ref os, .ref ok, .ref ol, .ref ord, .int isk, .ref odd, .ref otp, .int (nI tpd), .ref olt, .int oat, .int obg, .int otk, .int ovl, .ref orw, .int (nI rmn), .ref oso, .ref osz, .ref oit, .ref oho, .ref ohe, .ref otr, .int (nI tcd), .int own_, .int opt], cin g os 51 (mR stp laws z cnt fogs arms kinds faiths places moved)] := by
  refine mt.of (cc := cX11_get) (nL := 3) (ret := (some .int)) (own := RX11) (by decide +kernel) rfl rfl (show ([oh, os] : List Nat) = [oh, os] from rfl) (Nat.le_of_ble_eq_true rfl) (fun p e s m below meth c hf hr hlk _ hk hst hw ls hl => ?_)
  have hx := hf.1
  have hb := hf.2.1
  have hts := hf.2.2.2.2
  have hl : lv_has ls 3 [(0, .ref oh), (1, .int (nI k)), (2, .int 1)] := hl
  have hinX11 : ∀ w ∈ u_ws RX11 TX11 24, w ∈ wsX11_get := fun w h => List.mem_cons_of_mem _ (List.mem_append_right _ h)
  have w_0 : Cond.fieldLink RX11 9 "LightManModel" "s" "[I" ∈ wsX11_get := List.mem_of_getElem? (i := 1) rfl
  refine lv_aload_n hx hb dX11_get_0 rfl (lv_at hl 0 rfl) ?_
  refine rg hf hk hw hinX11 0 rfl rfl 0 (by decide) w_0 rfl dX11_get_1 ?_
  refine lv_bipush (v := 19) hx hb dX11_get_4 (by decide) ?_
  refine lv_iconst (v := 4) hx hb dX11_get_6 (by decide) ?_
  refine lv_iload_n hx hb dX11_get_7 rfl (lv_at hl 1 rfl) ?_
  refine lv_imul hx hb dX11_get_8 ?_
  refine lv_tope (y := nI (4 * k)) (pk_mul 4 k) ?_
  refine lv_iadd hx hb dX11_get_9 ?_
  refine lv_tope (y := nI (19 + 4 * k)) (nI_add 19 _) ?_
  refine lv_iload_n hx hb dX11_get_10 rfl (lv_at hl 2 rfl) ?_
  refine lv_iadd hx hb dX11_get_11 ?_
  refine lv_tope (y := nI (19 + 4 * k + 1)) (nI_add _ 1) ?_
  refine rij hf hk hw 1 rfl (j := 19 + 4 * k + 1) (vp_in_nI (by omega) (by omega)) (nI_clamp (by omega)) dX11_get_12 ?_
  refine lv_tope (y := faiths k) (mR_fa) ?_
  exact re_i hf hr hlk hw (rfl) (rfl) dX11_get_13
set_option maxHeartbeats 4000000 in
set_option maxRecDepth 100000 in
theorem c_X11_get2 (l : Launch) (g : GG) (oh : Nat) (os : Nat) (ok : Nat) (ol : Nat) (ord : Nat) (odd : Nat) (otp : Nat) (olt : Nat) (orw : Nat) (oso : Nat) (osz : Nat) (oit : Nat) (oho : Nat) (ohe : Nat) (otr : Nat) (stp : Nat) (laws : Nat → Int32) (z : Int32) (cnt : Nat) (fogs : Nat → Int32) (arms : Nat → Int32) (kinds : Nat → Int32) (faiths : Nat → Int32) (places : Nat → Int32) (moved : Nat → Int32) (isk : Int32) (tpd : Nat) (oat : Int32) (obg : Int32) (otk : Int32) (ovl : Int32) (rmn : Nat) (tcd : Nat) (own_ : Int32) (opt : Int32) (k : Nat) (hk8 : k < 8) : mt l g yX11_get wsX11_get rmX11_get [.ref oh, .int (nI k), .int 2] [cob oh 11 [.ref os, .ref ok, .ref ol, .ref ord, .int isk, .ref odd, .ref otp, .int (nI tpd), .ref olt, .int oat, .int obg, .int otk, .int ovl, .ref orw, .int (nI rmn), .ref oso, .ref osz, .ref oit, .ref oho, .ref ohe, .ref otr, .int (nI tcd), .int own_, .int opt], cin g os 51 (mR stp laws z cnt fogs arms kinds faiths places moved)] (some (.int (places k))) [cob oh 11 [.ref os, .ref ok, .ref ol, .ref ord, .int isk, .ref odd, .ref otp, .int (nI tpd), .ref olt, .int oat, .int obg, .int otk, .int ovl, .ref orw, .int (nI rmn), .ref oso, .ref osz, .ref oit, .ref oho, .ref ohe, .ref otr, .int (nI tcd), .int own_, .int opt], cin g os 51 (mR stp laws z cnt fogs arms kinds faiths places moved)] := by
  refine mt.of (cc := cX11_get) (nL := 3) (ret := (some .int)) (own := RX11) (by decide +kernel) rfl rfl (show ([oh, os] : List Nat) = [oh, os] from rfl) (Nat.le_of_ble_eq_true rfl) (fun p e s m below meth c hf hr hlk _ hk hst hw ls hl => ?_)
  have hx := hf.1
  have hb := hf.2.1
  have hts := hf.2.2.2.2
  have hl : lv_has ls 3 [(0, .ref oh), (1, .int (nI k)), (2, .int 2)] := hl
  have hinX11 : ∀ w ∈ u_ws RX11 TX11 24, w ∈ wsX11_get := fun w h => List.mem_cons_of_mem _ (List.mem_append_right _ h)
  have w_0 : Cond.fieldLink RX11 9 "LightManModel" "s" "[I" ∈ wsX11_get := List.mem_of_getElem? (i := 1) rfl
  refine lv_aload_n hx hb dX11_get_0 rfl (lv_at hl 0 rfl) ?_
  refine rg hf hk hw hinX11 0 rfl rfl 0 (by decide) w_0 rfl dX11_get_1 ?_
  refine lv_bipush (v := 19) hx hb dX11_get_4 (by decide) ?_
  refine lv_iconst (v := 4) hx hb dX11_get_6 (by decide) ?_
  refine lv_iload_n hx hb dX11_get_7 rfl (lv_at hl 1 rfl) ?_
  refine lv_imul hx hb dX11_get_8 ?_
  refine lv_tope (y := nI (4 * k)) (pk_mul 4 k) ?_
  refine lv_iadd hx hb dX11_get_9 ?_
  refine lv_tope (y := nI (19 + 4 * k)) (nI_add 19 _) ?_
  refine lv_iload_n hx hb dX11_get_10 rfl (lv_at hl 2 rfl) ?_
  refine lv_iadd hx hb dX11_get_11 ?_
  refine lv_tope (y := nI (19 + 4 * k + 2)) (nI_add _ 2) ?_
  refine rij hf hk hw 1 rfl (j := 19 + 4 * k + 2) (vp_in_nI (by omega) (by omega)) (nI_clamp (by omega)) dX11_get_12 ?_
  refine lv_tope (y := places k) (mR_pl) ?_
  exact re_i hf hr hlk hw (rfl) (rfl) dX11_get_13
set_option maxHeartbeats 4000000 in
set_option maxRecDepth 100000 in
theorem c_X11_get3 (l : Launch) (g : GG) (oh : Nat) (os : Nat) (ok : Nat) (ol : Nat) (ord : Nat) (odd : Nat) (otp : Nat) (olt : Nat) (orw : Nat) (oso : Nat) (osz : Nat) (oit : Nat) (oho : Nat) (ohe : Nat) (otr : Nat) (stp : Nat) (laws : Nat → Int32) (z : Int32) (cnt : Nat) (fogs : Nat → Int32) (arms : Nat → Int32) (kinds : Nat → Int32) (faiths : Nat → Int32) (places : Nat → Int32) (moved : Nat → Int32) (isk : Int32) (tpd : Nat) (oat : Int32) (obg : Int32) (otk : Int32) (ovl : Int32) (rmn : Nat) (tcd : Nat) (own_ : Int32) (opt : Int32) (k : Nat) (hk8 : k < 8) : mt l g yX11_get wsX11_get rmX11_get [.ref oh, .int (nI k), .int 3] [cob oh 11 [.ref os, .ref ok, .ref ol, .ref ord, .int isk, .ref odd, .ref otp, .int (nI tpd), .ref olt, .int oat, .int obg, .int otk, .int ovl, .ref orw, .int (nI rmn), .ref oso, .ref osz, .ref oit, .ref oho, .ref ohe, .ref otr, .int (nI tcd), .int own_, .int opt], cin g os 51 (mR stp laws z cnt fogs arms kinds faiths places moved)] (some (.int (moved k))) [cob oh 11 [.ref os, .ref ok, .ref ol, .ref ord, .int isk, .ref odd, .ref otp, .int (nI tpd), .ref olt, .int oat, .int obg, .int otk, .int ovl, .ref orw, .int (nI rmn), .ref oso, .ref osz, .ref oit, .ref oho, .ref ohe, .ref otr, .int (nI tcd), .int own_, .int opt], cin g os 51 (mR stp laws z cnt fogs arms kinds faiths places moved)] := by
  refine mt.of (cc := cX11_get) (nL := 3) (ret := (some .int)) (own := RX11) (by decide +kernel) rfl rfl (show ([oh, os] : List Nat) = [oh, os] from rfl) (Nat.le_of_ble_eq_true rfl) (fun p e s m below meth c hf hr hlk _ hk hst hw ls hl => ?_)
  have hx := hf.1
  have hb := hf.2.1
  have hts := hf.2.2.2.2
  have hl : lv_has ls 3 [(0, .ref oh), (1, .int (nI k)), (2, .int 3)] := hl
  have hinX11 : ∀ w ∈ u_ws RX11 TX11 24, w ∈ wsX11_get := fun w h => List.mem_cons_of_mem _ (List.mem_append_right _ h)
  have w_0 : Cond.fieldLink RX11 9 "LightManModel" "s" "[I" ∈ wsX11_get := List.mem_of_getElem? (i := 1) rfl
  refine lv_aload_n hx hb dX11_get_0 rfl (lv_at hl 0 rfl) ?_
  refine rg hf hk hw hinX11 0 rfl rfl 0 (by decide) w_0 rfl dX11_get_1 ?_
  refine lv_bipush (v := 19) hx hb dX11_get_4 (by decide) ?_
  refine lv_iconst (v := 4) hx hb dX11_get_6 (by decide) ?_
  refine lv_iload_n hx hb dX11_get_7 rfl (lv_at hl 1 rfl) ?_
  refine lv_imul hx hb dX11_get_8 ?_
  refine lv_tope (y := nI (4 * k)) (pk_mul 4 k) ?_
  refine lv_iadd hx hb dX11_get_9 ?_
  refine lv_tope (y := nI (19 + 4 * k)) (nI_add 19 _) ?_
  refine lv_iload_n hx hb dX11_get_10 rfl (lv_at hl 2 rfl) ?_
  refine lv_iadd hx hb dX11_get_11 ?_
  refine lv_tope (y := nI (19 + 4 * k + 3)) (nI_add _ 3) ?_
  refine rij hf hk hw 1 rfl (j := 19 + 4 * k + 3) (vp_in_nI (by omega) (by omega)) (nI_clamp (by omega)) dX11_get_12 ?_
  refine lv_tope (y := moved k) (mR_mo) ?_
  exact re_i hf hr hlk hw (rfl) (rfl) dX11_get_13
abbrev rmX11_puts : Room := { frames := 0, cells := 0, slots := 0, locals := 0 }
set_option maxHeartbeats 4000000 in
set_option maxRecDepth 100000 in
theorem c_X11_puts0 (l : Launch) (g : GG) (oh : Nat) (os : Nat) (ok : Nat) (ol : Nat) (ord : Nat) (odd : Nat) (otp : Nat) (olt : Nat) (orw : Nat) (oso : Nat) (osz : Nat) (oit : Nat) (oho : Nat) (ohe : Nat) (otr : Nat) (stp : Nat) (laws : Nat → Int32) (z : Int32) (cnt : Nat) (fogs : Nat → Int32) (arms : Nat → Int32) (kinds : Nat → Int32) (faiths : Nat → Int32) (places : Nat → Int32) (moved : Nat → Int32) (isk : Int32) (tpd : Nat) (oat : Int32) (obg : Int32) (otk : Int32) (ovl : Int32) (rmn : Nat) (tcd : Nat) (own_ : Int32) (opt : Int32) (k : Nat) (v : Int32) (hk8 : k < 8) : mt l g yX11_puts wsX11_puts rmX11_puts [.ref oh, .int (nI k), .int 0, .int v] [cob oh 11 [.ref os, .ref ok, .ref ol, .ref ord, .int isk, .ref odd, .ref otp, .int (nI tpd), .ref olt, .int oat, .int obg, .int otk, .int ovl, .ref orw, .int (nI rmn), .ref oso, .ref osz, .ref oit, .ref oho, .ref ohe, .ref otr, .int (nI tcd), .int own_, .int opt], cin g os 51 (mR stp laws z cnt fogs arms kinds faiths places moved)] none [cob oh 11 [.ref os, .ref ok, .ref ol, .ref ord, .int isk, .ref odd, .ref otp, .int (nI tpd), .ref olt, .int oat, .int obg, .int otk, .int ovl, .ref orw, .int (nI rmn), .ref oso, .ref osz, .ref oit, .ref oho, .ref ohe, .ref otr, .int (nI tcd), .int own_, .int opt], cin g os 51 (mR stp laws z cnt fogs arms (upd kinds k v) faiths places moved)] := by
  refine mt.of (cc := cX11_puts) (nL := 4) (ret := none) (own := RX11) (by decide +kernel) rfl rfl (show ([oh, os] : List Nat) = [oh, os] from rfl) (Nat.le_of_ble_eq_true rfl) (fun p e s m below meth c hf hr hlk _ hk hst hw ls hl => ?_)
  have hx := hf.1
  have hb := hf.2.1
  have hts := hf.2.2.2.2
  have hl : lv_has ls 4 [(0, .ref oh), (1, .int (nI k)), (2, .int 0), (3, .int v)] := hl
  have hinX11 : ∀ w ∈ u_ws RX11 TX11 24, w ∈ wsX11_puts := fun w h => List.mem_cons_of_mem _ (List.mem_append_right _ h)
  have w_0 : Cond.fieldLink RX11 9 "LightManModel" "s" "[I" ∈ wsX11_puts := List.mem_of_getElem? (i := 1) rfl
  refine lv_aload_n hx hb dX11_puts_0 rfl (lv_at hl 0 rfl) ?_
  refine rg hf hk hw hinX11 0 rfl rfl 0 (by decide) w_0 rfl dX11_puts_1 ?_
  refine lv_bipush (v := 19) hx hb dX11_puts_4 (by decide) ?_
  refine lv_iconst (v := 4) hx hb dX11_puts_6 (by decide) ?_
  refine lv_iload_n hx hb dX11_puts_7 rfl (lv_at hl 1 rfl) ?_
  refine lv_imul hx hb dX11_puts_8 ?_
  refine lv_tope (y := nI (4 * k)) (pk_mul 4 k) ?_
  refine lv_iadd hx hb dX11_puts_9 ?_
  refine lv_tope (y := nI (19 + 4 * k)) (nI_add 19 _) ?_
  refine lv_iload_n hx hb dX11_puts_10 rfl (lv_at hl 2 rfl) ?_
  refine lv_iadd hx hb dX11_puts_11 ?_
  refine lv_tope (y := nI (19 + 4 * k + 0)) (nI_add _ 0) ?_
  refine lv_iload_n hx hb dX11_puts_12 rfl (lv_at hl 3 rfl) ?_
  refine rse hf hk hw 1 rfl (j := 19 + 4 * k + 0) (vp_in_nI (by omega) (by omega)) (nI_clamp (by omega)) (mU_kd0) dX11_puts_13 (W' := [cob oh 11 [.ref os, .ref ok, .ref ol, .ref ord, .int isk, .ref odd, .ref otp, .int (nI tpd), .ref olt, .int oat, .int obg, .int otk, .int ovl, .ref orw, .int (nI rmn), .ref oso, .ref osz, .ref oit, .ref oho, .ref ohe, .ref otr, .int (nI tcd), .int own_, .int opt], cin g os 51 (mR stp laws z cnt fogs arms (upd kinds k v) faiths places moved)]) rfl (fun H locs hw => ?_)
  exact re_v hf hr hlk hw (rfl) dX11_puts_14
set_option maxHeartbeats 4000000 in
set_option maxRecDepth 100000 in
theorem c_X11_puts1 (l : Launch) (g : GG) (oh : Nat) (os : Nat) (ok : Nat) (ol : Nat) (ord : Nat) (odd : Nat) (otp : Nat) (olt : Nat) (orw : Nat) (oso : Nat) (osz : Nat) (oit : Nat) (oho : Nat) (ohe : Nat) (otr : Nat) (stp : Nat) (laws : Nat → Int32) (z : Int32) (cnt : Nat) (fogs : Nat → Int32) (arms : Nat → Int32) (kinds : Nat → Int32) (faiths : Nat → Int32) (places : Nat → Int32) (moved : Nat → Int32) (isk : Int32) (tpd : Nat) (oat : Int32) (obg : Int32) (otk : Int32) (ovl : Int32) (rmn : Nat) (tcd : Nat) (own_ : Int32) (opt : Int32) (k : Nat) (v : Int32) (hk8 : k < 8) : mt l g yX11_puts wsX11_puts rmX11_puts [.ref oh, .int (nI k), .int 1, .int v] [cob oh 11 [.ref os, .ref ok, .ref ol, .ref ord, .int isk, .ref odd, .ref otp, .int (nI tpd), .ref olt, .int oat, .int obg, .int otk, .int ovl, .ref orw, .int (nI rmn), .ref oso, .ref osz, .ref oit, .ref oho, .ref ohe, .ref otr, .int (nI tcd), .int own_, .int opt], cin g os 51 (mR stp laws z cnt fogs arms kinds faiths places moved)] none [cob oh 11 [.ref os, .ref ok, .ref ol, .ref ord, .int isk, .ref odd, .ref otp, .int (nI tpd), .ref olt, .int oat, .int obg, .int otk, .int ovl, .ref orw, .int (nI rmn), .ref oso, .ref osz, .ref oit, .ref oho, .ref ohe, .ref otr, .int (nI tcd), .int own_, .int opt], cin g os 51 (mR stp laws z cnt fogs arms kinds (upd faiths k v) places moved)] := by
  refine mt.of (cc := cX11_puts) (nL := 4) (ret := none) (own := RX11) (by decide +kernel) rfl rfl (show ([oh, os] : List Nat) = [oh, os] from rfl) (Nat.le_of_ble_eq_true rfl) (fun p e s m below meth c hf hr hlk _ hk hst hw ls hl => ?_)
  have hx := hf.1
  have hb := hf.2.1
  have hts := hf.2.2.2.2
  have hl : lv_has ls 4 [(0, .ref oh), (1, .int (nI k)), (2, .int 1), (3, .int v)] := hl
  have hinX11 : ∀ w ∈ u_ws RX11 TX11 24, w ∈ wsX11_puts := fun w h => List.mem_cons_of_mem _ (List.mem_append_right _ h)
  have w_0 : Cond.fieldLink RX11 9 "LightManModel" "s" "[I" ∈ wsX11_puts := List.mem_of_getElem? (i := 1) rfl
  refine lv_aload_n hx hb dX11_puts_0 rfl (lv_at hl 0 rfl) ?_
  refine rg hf hk hw hinX11 0 rfl rfl 0 (by decide) w_0 rfl dX11_puts_1 ?_
  refine lv_bipush (v := 19) hx hb dX11_puts_4 (by decide) ?_
  refine lv_iconst (v := 4) hx hb dX11_puts_6 (by decide) ?_
  refine lv_iload_n hx hb dX11_puts_7 rfl (lv_at hl 1 rfl) ?_
  refine lv_imul hx hb dX11_puts_8 ?_
  refine lv_tope (y := nI (4 * k)) (pk_mul 4 k) ?_
  refine lv_iadd hx hb dX11_puts_9 ?_
  refine lv_tope (y := nI (19 + 4 * k)) (nI_add 19 _) ?_
  refine lv_iload_n hx hb dX11_puts_10 rfl (lv_at hl 2 rfl) ?_
  refine lv_iadd hx hb dX11_puts_11 ?_
  refine lv_tope (y := nI (19 + 4 * k + 1)) (nI_add _ 1) ?_
  refine lv_iload_n hx hb dX11_puts_12 rfl (lv_at hl 3 rfl) ?_
  refine rse hf hk hw 1 rfl (j := 19 + 4 * k + 1) (vp_in_nI (by omega) (by omega)) (nI_clamp (by omega)) (mU_fa) dX11_puts_13 (W' := [cob oh 11 [.ref os, .ref ok, .ref ol, .ref ord, .int isk, .ref odd, .ref otp, .int (nI tpd), .ref olt, .int oat, .int obg, .int otk, .int ovl, .ref orw, .int (nI rmn), .ref oso, .ref osz, .ref oit, .ref oho, .ref ohe, .ref otr, .int (nI tcd), .int own_, .int opt], cin g os 51 (mR stp laws z cnt fogs arms kinds (upd faiths k v) places moved)]) rfl (fun H locs hw => ?_)
  exact re_v hf hr hlk hw (rfl) dX11_puts_14
set_option maxHeartbeats 4000000 in
set_option maxRecDepth 100000 in
theorem c_X11_puts2 (l : Launch) (g : GG) (oh : Nat) (os : Nat) (ok : Nat) (ol : Nat) (ord : Nat) (odd : Nat) (otp : Nat) (olt : Nat) (orw : Nat) (oso : Nat) (osz : Nat) (oit : Nat) (oho : Nat) (ohe : Nat) (otr : Nat) (stp : Nat) (laws : Nat → Int32) (z : Int32) (cnt : Nat) (fogs : Nat → Int32) (arms : Nat → Int32) (kinds : Nat → Int32) (faiths : Nat → Int32) (places : Nat → Int32) (moved : Nat → Int32) (isk : Int32) (tpd : Nat) (oat : Int32) (obg : Int32) (otk : Int32) (ovl : Int32) (rmn : Nat) (tcd : Nat) (own_ : Int32) (opt : Int32) (k : Nat) (v : Int32) (hk8 : k < 8) : mt l g yX11_puts wsX11_puts rmX11_puts [.ref oh, .int (nI k), .int 2, .int v] [cob oh 11 [.ref os, .ref ok, .ref ol, .ref ord, .int isk, .ref odd, .ref otp, .int (nI tpd), .ref olt, .int oat, .int obg, .int otk, .int ovl, .ref orw, .int (nI rmn), .ref oso, .ref osz, .ref oit, .ref oho, .ref ohe, .ref otr, .int (nI tcd), .int own_, .int opt], cin g os 51 (mR stp laws z cnt fogs arms kinds faiths places moved)] none [cob oh 11 [.ref os, .ref ok, .ref ol, .ref ord, .int isk, .ref odd, .ref otp, .int (nI tpd), .ref olt, .int oat, .int obg, .int otk, .int ovl, .ref orw, .int (nI rmn), .ref oso, .ref osz, .ref oit, .ref oho, .ref ohe, .ref otr, .int (nI tcd), .int own_, .int opt], cin g os 51 (mR stp laws z cnt fogs arms kinds faiths (upd places k v) moved)] := by
  refine mt.of (cc := cX11_puts) (nL := 4) (ret := none) (own := RX11) (by decide +kernel) rfl rfl (show ([oh, os] : List Nat) = [oh, os] from rfl) (Nat.le_of_ble_eq_true rfl) (fun p e s m below meth c hf hr hlk _ hk hst hw ls hl => ?_)
  have hx := hf.1
  have hb := hf.2.1
  have hts := hf.2.2.2.2
  have hl : lv_has ls 4 [(0, .ref oh), (1, .int (nI k)), (2, .int 2), (3, .int v)] := hl
  have hinX11 : ∀ w ∈ u_ws RX11 TX11 24, w ∈ wsX11_puts := fun w h => List.mem_cons_of_mem _ (List.mem_append_right _ h)
  have w_0 : Cond.fieldLink RX11 9 "LightManModel" "s" "[I" ∈ wsX11_puts := List.mem_of_getElem? (i := 1) rfl
  refine lv_aload_n hx hb dX11_puts_0 rfl (lv_at hl 0 rfl) ?_
  refine rg hf hk hw hinX11 0 rfl rfl 0 (by decide) w_0 rfl dX11_puts_1 ?_
  refine lv_bipush (v := 19) hx hb dX11_puts_4 (by decide) ?_
  refine lv_iconst (v := 4) hx hb dX11_puts_6 (by decide) ?_
  refine lv_iload_n hx hb dX11_puts_7 rfl (lv_at hl 1 rfl) ?_
  refine lv_imul hx hb dX11_puts_8 ?_
  refine lv_tope (y := nI (4 * k)) (pk_mul 4 k) ?_
  refine lv_iadd hx hb dX11_puts_9 ?_
  refine lv_tope (y := nI (19 + 4 * k)) (nI_add 19 _) ?_
  refine lv_iload_n hx hb dX11_puts_10 rfl (lv_at hl 2 rfl) ?_
  refine lv_iadd hx hb dX11_puts_11 ?_
  refine lv_tope (y := nI (19 + 4 * k + 2)) (nI_add _ 2) ?_
  refine lv_iload_n hx hb dX11_puts_12 rfl (lv_at hl 3 rfl) ?_
  refine rse hf hk hw 1 rfl (j := 19 + 4 * k + 2) (vp_in_nI (by omega) (by omega)) (nI_clamp (by omega)) (mU_pl) dX11_puts_13 (W' := [cob oh 11 [.ref os, .ref ok, .ref ol, .ref ord, .int isk, .ref odd, .ref otp, .int (nI tpd), .ref olt, .int oat, .int obg, .int otk, .int ovl, .ref orw, .int (nI rmn), .ref oso, .ref osz, .ref oit, .ref oho, .ref ohe, .ref otr, .int (nI tcd), .int own_, .int opt], cin g os 51 (mR stp laws z cnt fogs arms kinds faiths (upd places k v) moved)]) rfl (fun H locs hw => ?_)
  exact re_v hf hr hlk hw (rfl) dX11_puts_14
set_option maxHeartbeats 4000000 in
set_option maxRecDepth 100000 in
theorem c_X11_puts3 (l : Launch) (g : GG) (oh : Nat) (os : Nat) (ok : Nat) (ol : Nat) (ord : Nat) (odd : Nat) (otp : Nat) (olt : Nat) (orw : Nat) (oso : Nat) (osz : Nat) (oit : Nat) (oho : Nat) (ohe : Nat) (otr : Nat) (stp : Nat) (laws : Nat → Int32) (z : Int32) (cnt : Nat) (fogs : Nat → Int32) (arms : Nat → Int32) (kinds : Nat → Int32) (faiths : Nat → Int32) (places : Nat → Int32) (moved : Nat → Int32) (isk : Int32) (tpd : Nat) (oat : Int32) (obg : Int32) (otk : Int32) (ovl : Int32) (rmn : Nat) (tcd : Nat) (own_ : Int32) (opt : Int32) (k : Nat) (v : Int32) (hk8 : k < 8) : mt l g yX11_puts wsX11_puts rmX11_puts [.ref oh, .int (nI k), .int 3, .int v] [cob oh 11 [.ref os, .ref ok, .ref ol, .ref ord, .int isk, .ref odd, .ref otp, .int (nI tpd), .ref olt, .int oat, .int obg, .int otk, .int ovl, .ref orw, .int (nI rmn), .ref oso, .ref osz, .ref oit, .ref oho, .ref ohe, .ref otr, .int (nI tcd), .int own_, .int opt], cin g os 51 (mR stp laws z cnt fogs arms kinds faiths places moved)] none [cob oh 11 [.ref os, .ref ok, .ref ol, .ref ord, .int isk, .ref odd, .ref otp, .int (nI tpd), .ref olt, .int oat, .int obg, .int otk, .int ovl, .ref orw, .int (nI rmn), .ref oso, .ref osz, .ref oit, .ref oho, .ref ohe, .ref otr, .int (nI tcd), .int own_, .int opt], cin g os 51 (mR stp laws z cnt fogs arms kinds faiths places (upd moved k v))] := by
  refine mt.of (cc := cX11_puts) (nL := 4) (ret := none) (own := RX11) (by decide +kernel) rfl rfl (show ([oh, os] : List Nat) = [oh, os] from rfl) (Nat.le_of_ble_eq_true rfl) (fun p e s m below meth c hf hr hlk _ hk hst hw ls hl => ?_)
  have hx := hf.1
  have hb := hf.2.1
  have hts := hf.2.2.2.2
  have hl : lv_has ls 4 [(0, .ref oh), (1, .int (nI k)), (2, .int 3), (3, .int v)] := hl
  have hinX11 : ∀ w ∈ u_ws RX11 TX11 24, w ∈ wsX11_puts := fun w h => List.mem_cons_of_mem _ (List.mem_append_right _ h)
  have w_0 : Cond.fieldLink RX11 9 "LightManModel" "s" "[I" ∈ wsX11_puts := List.mem_of_getElem? (i := 1) rfl
  refine lv_aload_n hx hb dX11_puts_0 rfl (lv_at hl 0 rfl) ?_
  refine rg hf hk hw hinX11 0 rfl rfl 0 (by decide) w_0 rfl dX11_puts_1 ?_
  refine lv_bipush (v := 19) hx hb dX11_puts_4 (by decide) ?_
  refine lv_iconst (v := 4) hx hb dX11_puts_6 (by decide) ?_
  refine lv_iload_n hx hb dX11_puts_7 rfl (lv_at hl 1 rfl) ?_
  refine lv_imul hx hb dX11_puts_8 ?_
  refine lv_tope (y := nI (4 * k)) (pk_mul 4 k) ?_
  refine lv_iadd hx hb dX11_puts_9 ?_
  refine lv_tope (y := nI (19 + 4 * k)) (nI_add 19 _) ?_
  refine lv_iload_n hx hb dX11_puts_10 rfl (lv_at hl 2 rfl) ?_
  refine lv_iadd hx hb dX11_puts_11 ?_
  refine lv_tope (y := nI (19 + 4 * k + 3)) (nI_add _ 3) ?_
  refine lv_iload_n hx hb dX11_puts_12 rfl (lv_at hl 3 rfl) ?_
  refine rse hf hk hw 1 rfl (j := 19 + 4 * k + 3) (vp_in_nI (by omega) (by omega)) (nI_clamp (by omega)) (mU_mo) dX11_puts_13 (W' := [cob oh 11 [.ref os, .ref ok, .ref ol, .ref ord, .int isk, .ref odd, .ref otp, .int (nI tpd), .ref olt, .int oat, .int obg, .int otk, .int ovl, .ref orw, .int (nI rmn), .ref oso, .ref osz, .ref oit, .ref oho, .ref ohe, .ref otr, .int (nI tcd), .int own_, .int opt], cin g os 51 (mR stp laws z cnt fogs arms kinds faiths places (upd moved k v))]) rfl (fun H locs hw => ?_)
  exact re_v hf hr hlk hw (rfl) dX11_puts_14
theorem hdV_X11_get : yX11_get.cls = RX11 ∧ yX11_get.cls ≠ "java/lang/invoke/MethodHandle" ∧ yX11_get.cls ≠ "java/lang/invoke/VarHandle" ∧ (parseMethodDescriptor yX11_get.desc).map (fun d => d.parameters.length) = some 2 := by decide +kernel
abbrev rmX11_isThrough : Room := { frames := 1, cells := 0, slots := 0, locals := 22 }
set_option maxHeartbeats 4000000 in
set_option maxRecDepth 100000 in
theorem c_X11_isThrough (l : Launch) (g : GG) (oh : Nat) (os : Nat) (ok : Nat) (ol : Nat) (ord : Nat) (odd : Nat) (otp : Nat) (olt : Nat) (orw : Nat) (oso : Nat) (osz : Nat) (oit : Nat) (oho : Nat) (ohe : Nat) (otr : Nat) (stp : Nat) (laws : Nat → Int32) (z : Int32) (cnt : Nat) (fogs : Nat → Int32) (arms : Nat → Int32) (kinds : Nat → Int32) (faiths : Nat → Int32) (places : Nat → Int32) (moved : Nat → Int32) (isk : Int32) (tpd : Nat) (oat : Int32) (obg : Int32) (otk : Int32) (ovl : Int32) (rmn : Nat) (tcd : Nat) (own_ : Int32) (opt : Int32) (k : Nat) (hk8 : k < 8) (hpl : plOk (places k)) : mt l g yX11_isThrough wsX11_isThrough rmX11_isThrough [.ref oh, .int (nI k)] [cob oh 11 [.ref os, .ref ok, .ref ol, .ref ord, .int isk, .ref odd, .ref otp, .int (nI tpd), .ref olt, .int oat, .int obg, .int otk, .int ovl, .ref orw, .int (nI rmn), .ref oso, .ref osz, .ref oit, .ref oho, .ref ohe, .ref otr, .int (nI tcd), .int own_, .int opt], cin g os 51 (mR stp laws z cnt fogs arms kinds faiths places moved)] (some (.int (thrF (places k)))) [cob oh 11 [.ref os, .ref ok, .ref ol, .ref ord, .int isk, .ref odd, .ref otp, .int (nI tpd), .ref olt, .int oat, .int obg, .int otk, .int ovl, .ref orw, .int (nI rmn), .ref oso, .ref osz, .ref oit, .ref oho, .ref ohe, .ref otr, .int (nI tcd), .int own_, .int opt], cin g os 51 (mR stp laws z cnt fogs arms kinds faiths places moved)] := by
  refine mt.of (cc := cX11_isThrough) (nL := 2) (ret := (some .boolean)) (own := RX11) (by decide +kernel) rfl rfl (show ([oh, os] : List Nat) = [oh, os] from rfl) (Nat.le_of_ble_eq_true rfl) (fun p e s m below meth c hf hr hlk _ hk hst hw ls hl => ?_)
  have hx := hf.1
  have hb := hf.2.1
  have hts := hf.2.2.2.2
  have hl : lv_has ls 2 [(0, .ref oh), (1, .int (nI k))] := hl
  refine lv_aload_n hx hb dX11_isThrough_0 rfl (lv_at hl 0 rfl) ?_
  refine lv_iload_n hx hb dX11_isThrough_1 rfl (lv_at hl 1 rfl) ?_
  refine lv_iconst (v := 2) hx hb dX11_isThrough_2 (by decide) ?_
  refine mcV hf hk hst hw (c_X11_get2 l g oh os ok ol ord odd otp olt orw oso osz oit oho ohe otr stp laws z cnt fogs arms kinds faiths places moved isk tpd oat obg otk ovl rmn tcd own_ opt k (by omega)) (cwV 2 hts gX11_isThrough_X11_get rfl rfl rfl hdV_X11_get ⟨Nat.le_of_ble_eq_true rfl, Nat.le_of_ble_eq_true rfl⟩) [0, 1] rfl rfl 0 rfl rfl rfl hl.1 rfl (Nat.le_of_ble_eq_true rfl) dX11_isThrough_3 ⟨Nat.zero_le _, Nat.zero_le _⟩ (W' := [cob oh 11 [.ref os, .ref ok, .ref ol, .ref ord, .int isk, .ref odd, .ref otp, .int (nI tpd), .ref olt, .int oat, .int obg, .int otk, .int ovl, .ref orw, .int (nI rmn), .ref oso, .ref osz, .ref oit, .ref oho, .ref ohe, .ref otr, .int (nI tcd), .int own_, .int opt], cin g os 51 (mR stp laws z cnt fogs arms kinds faiths places moved)]) rfl (fun H locs hw => ?_)
  refine lv_bipush (v := 12) hx hb dX11_isThrough_6 (by decide) ?_
  refine lv_icmp_ne (tgt := 15) hx hb dX11_isThrough_8 (by decide) (fun c_1 => ?_) (fun c_1 => ?_)
  · refine lv_iconst (v := 0) hx hb dX11_isThrough_15 (by decide) ?_
    exact re_z hf hr hlk hw (rfl) (by rw [thr_n hpl c_1]) (rfl) dX11_isThrough_16
  · refine lv_iconst (v := 1) hx hb dX11_isThrough_11 (by decide) ?_
    refine lv_goto (tgt := 16) hx hb dX11_isThrough_12 (by decide) ?_
    exact re_z hf hr hlk hw (rfl) (by rw [thr_e c_1]) (rfl) dX11_isThrough_16
abbrev rmX11_fogNow : Room := { frames := 0, cells := 0, slots := 0, locals := 0 }
set_option maxHeartbeats 4000000 in
set_option maxRecDepth 100000 in
theorem c_X11_fogNow (l : Launch) (g : GG) (oh : Nat) (os : Nat) (ok : Nat) (ol : Nat) (ord : Nat) (odd : Nat) (otp : Nat) (olt : Nat) (orw : Nat) (oso : Nat) (osz : Nat) (oit : Nat) (oho : Nat) (ohe : Nat) (otr : Nat) (stp : Nat) (laws : Nat → Int32) (z : Int32) (cnt : Nat) (fogs : Nat → Int32) (arms : Nat → Int32) (kinds : Nat → Int32) (faiths : Nat → Int32) (places : Nat → Int32) (moved : Nat → Int32) (isk : Int32) (tpd : Nat) (oat : Int32) (obg : Int32) (otk : Int32) (ovl : Int32) (rmn : Nat) (tcd : Nat) (own_ : Int32) (opt : Int32) (hsp : stp < 2 ^ 30) : mt l g yX11_fogNow wsX11_fogNow rmX11_fogNow [.ref oh] [cob oh 11 [.ref os, .ref ok, .ref ol, .ref ord, .int isk, .ref odd, .ref otp, .int (nI tpd), .ref olt, .int oat, .int obg, .int otk, .int ovl, .ref orw, .int (nI rmn), .ref oso, .ref osz, .ref oit, .ref oho, .ref ohe, .ref otr, .int (nI tcd), .int own_, .int opt], cin g os 51 (mR stp laws z cnt fogs arms kinds faiths places moved)] (some (.int (fogs (stp % 6)))) [cob oh 11 [.ref os, .ref ok, .ref ol, .ref ord, .int isk, .ref odd, .ref otp, .int (nI tpd), .ref olt, .int oat, .int obg, .int otk, .int ovl, .ref orw, .int (nI rmn), .ref oso, .ref osz, .ref oit, .ref oho, .ref ohe, .ref otr, .int (nI tcd), .int own_, .int opt], cin g os 51 (mR stp laws z cnt fogs arms kinds faiths places moved)] := by
  refine mt.of (cc := cX11_fogNow) (nL := 1) (ret := (some .int)) (own := RX11) (by decide +kernel) rfl rfl (show ([oh, os] : List Nat) = [oh, os] from rfl) (Nat.le_of_ble_eq_true rfl) (fun p e s m below meth c hf hr hlk _ hk hst hw ls hl => ?_)
  have hx := hf.1
  have hb := hf.2.1
  have hts := hf.2.2.2.2
  have hl : lv_has ls 1 [(0, .ref oh)] := hl
  have hinX11 : ∀ w ∈ u_ws RX11 TX11 24, w ∈ wsX11_fogNow := fun w h => List.mem_cons_of_mem _ (List.mem_append_right _ h)
  have w_0 : Cond.fieldLink RX11 9 "LightManModel" "s" "[I" ∈ wsX11_fogNow := List.mem_of_getElem? (i := 1) rfl
  refine lv_aload_n hx hb dX11_fogNow_0 rfl (lv_at hl 0 rfl) ?_
  refine rg hf hk hw hinX11 0 rfl rfl 0 (by decide) w_0 rfl dX11_fogNow_1 ?_
  refine lv_bipush (v := 7) hx hb dX11_fogNow_4 (by decide) ?_
  refine lv_aload_n hx hb dX11_fogNow_6 rfl (lv_at hl 0 rfl) ?_
  refine rg hf hk hw hinX11 0 rfl rfl 0 (by decide) w_0 rfl dX11_fogNow_7 ?_
  refine lv_iconst (v := 0) hx hb dX11_fogNow_10 (by decide) ?_
  refine rij hf hk hw 1 rfl (j := 0) (vp_in_nI (n := 0) (by omega) (by omega)) (rfl) dX11_fogNow_11 ?_
  refine lv_tope (y := nI stp) (rfl) ?_
  refine lv_bipush (v := 6) hx hb dX11_fogNow_12 (by decide) ?_
  refine lv_irem hx hb dX11_fogNow_14 (by decide) ?_
  refine lv_tope (y := nI (stp % 6)) (pk_rem (d := 6) (by omega) (by omega) (by omega)) ?_
  refine lv_iadd hx hb dX11_fogNow_15 ?_
  refine lv_tope (y := nI (7 + stp % 6)) (nI_add 7 _) ?_
  refine rij hf hk hw 1 rfl (j := 7 + stp % 6) (vp_in_nI (by omega) (by omega)) (nI_clamp (by omega)) dX11_fogNow_16 ?_
  refine lv_tope (y := fogs (stp % 6)) (mR_fog (by omega)) ?_
  exact re_i hf hr hlk hw (rfl) (rfl) dX11_fogNow_17
abbrev rmX11_armsNow : Room := { frames := 0, cells := 0, slots := 0, locals := 0 }
set_option maxHeartbeats 4000000 in
set_option maxRecDepth 100000 in
theorem c_X11_armsNow (l : Launch) (g : GG) (oh : Nat) (os : Nat) (ok : Nat) (ol : Nat) (ord : Nat) (odd : Nat) (otp : Nat) (olt : Nat) (orw : Nat) (oso : Nat) (osz : Nat) (oit : Nat) (oho : Nat) (ohe : Nat) (otr : Nat) (stp : Nat) (laws : Nat → Int32) (z : Int32) (cnt : Nat) (fogs : Nat → Int32) (arms : Nat → Int32) (kinds : Nat → Int32) (faiths : Nat → Int32) (places : Nat → Int32) (moved : Nat → Int32) (isk : Int32) (tpd : Nat) (oat : Int32) (obg : Int32) (otk : Int32) (ovl : Int32) (rmn : Nat) (tcd : Nat) (own_ : Int32) (opt : Int32) (hsp : stp < 2 ^ 30) : mt l g yX11_armsNow wsX11_armsNow rmX11_armsNow [.ref oh] [cob oh 11 [.ref os, .ref ok, .ref ol, .ref ord, .int isk, .ref odd, .ref otp, .int (nI tpd), .ref olt, .int oat, .int obg, .int otk, .int ovl, .ref orw, .int (nI rmn), .ref oso, .ref osz, .ref oit, .ref oho, .ref ohe, .ref otr, .int (nI tcd), .int own_, .int opt], cin g os 51 (mR stp laws z cnt fogs arms kinds faiths places moved)] (some (.int (arms (stp % 6)))) [cob oh 11 [.ref os, .ref ok, .ref ol, .ref ord, .int isk, .ref odd, .ref otp, .int (nI tpd), .ref olt, .int oat, .int obg, .int otk, .int ovl, .ref orw, .int (nI rmn), .ref oso, .ref osz, .ref oit, .ref oho, .ref ohe, .ref otr, .int (nI tcd), .int own_, .int opt], cin g os 51 (mR stp laws z cnt fogs arms kinds faiths places moved)] := by
  refine mt.of (cc := cX11_armsNow) (nL := 1) (ret := (some .int)) (own := RX11) (by decide +kernel) rfl rfl (show ([oh, os] : List Nat) = [oh, os] from rfl) (Nat.le_of_ble_eq_true rfl) (fun p e s m below meth c hf hr hlk _ hk hst hw ls hl => ?_)
  have hx := hf.1
  have hb := hf.2.1
  have hts := hf.2.2.2.2
  have hl : lv_has ls 1 [(0, .ref oh)] := hl
  have hinX11 : ∀ w ∈ u_ws RX11 TX11 24, w ∈ wsX11_armsNow := fun w h => List.mem_cons_of_mem _ (List.mem_append_right _ h)
  have w_0 : Cond.fieldLink RX11 9 "LightManModel" "s" "[I" ∈ wsX11_armsNow := List.mem_of_getElem? (i := 1) rfl
  refine lv_aload_n hx hb dX11_armsNow_0 rfl (lv_at hl 0 rfl) ?_
  refine rg hf hk hw hinX11 0 rfl rfl 0 (by decide) w_0 rfl dX11_armsNow_1 ?_
  refine lv_bipush (v := 13) hx hb dX11_armsNow_4 (by decide) ?_
  refine lv_aload_n hx hb dX11_armsNow_6 rfl (lv_at hl 0 rfl) ?_
  refine rg hf hk hw hinX11 0 rfl rfl 0 (by decide) w_0 rfl dX11_armsNow_7 ?_
  refine lv_iconst (v := 0) hx hb dX11_armsNow_10 (by decide) ?_
  refine rij hf hk hw 1 rfl (j := 0) (vp_in_nI (n := 0) (by omega) (by omega)) (rfl) dX11_armsNow_11 ?_
  refine lv_tope (y := nI stp) (rfl) ?_
  refine lv_bipush (v := 6) hx hb dX11_armsNow_12 (by decide) ?_
  refine lv_irem hx hb dX11_armsNow_14 (by decide) ?_
  refine lv_tope (y := nI (stp % 6)) (pk_rem (d := 6) (by omega) (by omega) (by omega)) ?_
  refine lv_iadd hx hb dX11_armsNow_15 ?_
  refine lv_tope (y := nI (13 + stp % 6)) (nI_add 13 _) ?_
  refine rij hf hk hw 1 rfl (j := 13 + stp % 6) (vp_in_nI (by omega) (by omega)) (nI_clamp (by omega)) dX11_armsNow_16 ?_
  refine lv_tope (y := arms (stp % 6)) (mR_arm (by omega)) ?_
  exact re_i hf hr hlk hw (rfl) (rfl) dX11_armsNow_17
theorem s5 (h : Int32) : 2 * h = h * 2 := Int32.mul_comm _ _
theorem kn3 (a : Int32) : 2 + a = 3 + a - 1 := by rw [Int32.sub_eq_add_neg, Int32.add_assoc, Int32.add_comm a, ← Int32.add_assoc]; rfl
theorem fe3 (f : Int32) : f - 1 = 2 - 3 + f := by rw [Int32.sub_eq_add_neg, Int32.add_comm]; rfl
theorem hdV_X11_armsNow : yX11_armsNow.cls = RX11 ∧ yX11_armsNow.cls ≠ "java/lang/invoke/MethodHandle" ∧ yX11_armsNow.cls ≠ "java/lang/invoke/VarHandle" ∧ (parseMethodDescriptor yX11_armsNow.desc).map (fun d => d.parameters.length) = some 0 := by decide +kernel
theorem hdV_X11_fogNow : yX11_fogNow.cls = RX11 ∧ yX11_fogNow.cls ≠ "java/lang/invoke/MethodHandle" ∧ yX11_fogNow.cls ≠ "java/lang/invoke/VarHandle" ∧ (parseMethodDescriptor yX11_fogNow.desc).map (fun d => d.parameters.length) = some 0 := by decide +kernel
abbrev rmX11_sightOf : Room := { frames := 1, cells := 0, slots := 0, locals := 22 }
set_option maxHeartbeats 4000000 in
set_option maxRecDepth 100000 in
theorem c_X11_sightOf (l : Launch) (g : GG) (oh : Nat) (os : Nat) (ok : Nat) (ol : Nat) (ord : Nat) (odd : Nat) (otp : Nat) (olt : Nat) (orw : Nat) (oso : Nat) (osz : Nat) (oit : Nat) (oho : Nat) (ohe : Nat) (otr : Nat) (stp : Nat) (laws : Nat → Int32) (z : Int32) (cnt : Nat) (fogs : Nat → Int32) (arms : Nat → Int32) (kinds : Nat → Int32) (faiths : Nat → Int32) (places : Nat → Int32) (moved : Nat → Int32) (isk : Int32) (tpd : Nat) (oat : Int32) (obg : Int32) (otk : Int32) (ovl : Int32) (rmn : Nat) (tcd : Nat) (own_ : Int32) (opt : Int32) (k : Nat) (hk8 : k < 8) (hsp : stp < 2 ^ 30) : mt l g yX11_sightOf wsX11_sightOf rmX11_sightOf [.ref oh, .int (nI k)] [cob oh 11 [.ref os, .ref ok, .ref ol, .ref ord, .int isk, .ref odd, .ref otp, .int (nI tpd), .ref olt, .int oat, .int obg, .int otk, .int ovl, .ref orw, .int (nI rmn), .ref oso, .ref osz, .ref oit, .ref oho, .ref ohe, .ref otr, .int (nI tcd), .int own_, .int opt], cin g os 51 (mR stp laws z cnt fogs arms kinds faiths places moved)] (some (.int (sightF (kinds k) (fogs (stp % 6)) (arms (stp % 6)) (laws 0)))) [cob oh 11 [.ref os, .ref ok, .ref ol, .ref ord, .int isk, .ref odd, .ref otp, .int (nI tpd), .ref olt, .int oat, .int obg, .int otk, .int ovl, .ref orw, .int (nI rmn), .ref oso, .ref osz, .ref oit, .ref oho, .ref ohe, .ref otr, .int (nI tcd), .int own_, .int opt], cin g os 51 (mR stp laws z cnt fogs arms kinds faiths places moved)] := by
  refine mt.of (cc := cX11_sightOf) (nL := 3) (ret := (some .int)) (own := RX11) (by decide +kernel) rfl rfl (show ([oh, os] : List Nat) = [oh, os] from rfl) (Nat.le_of_ble_eq_true rfl) (fun p e s m below meth c hf hr hlk _ hk hst hw ls hl => ?_)
  have hx := hf.1
  have hb := hf.2.1
  have hts := hf.2.2.2.2
  have hl : lv_has ls 3 [(0, .ref oh), (1, .int (nI k))] := hl
  have hinX11 : ∀ w ∈ u_ws RX11 TX11 24, w ∈ wsX11_sightOf := fun w h => List.mem_cons_of_mem _ (List.mem_append_right _ h)
  have w_0 : Cond.fieldLink RX11 9 "LightManModel" "s" "[I" ∈ wsX11_sightOf := List.mem_of_getElem? (i := 1) rfl
  refine lv_bipush (v := 8) hx hb dX11_sightOf_0 (by decide) ?_
  refine lv_aload_n hx hb dX11_sightOf_2 rfl (lv_at hl 0 rfl) ?_
  refine mcV hf hk hst hw (c_X11_armsNow l g oh os ok ol ord odd otp olt orw oso osz oit oho ohe otr stp laws z cnt fogs arms kinds faiths places moved isk tpd oat obg otk ovl rmn tcd own_ opt (by omega)) (cwV 0 hts gX11_sightOf_X11_armsNow rfl rfl rfl hdV_X11_armsNow ⟨Nat.le_of_ble_eq_true rfl, Nat.le_of_ble_eq_true rfl⟩) [0, 1] rfl rfl 0 rfl rfl rfl hl.1 rfl (Nat.le_of_ble_eq_true rfl) dX11_sightOf_3 ⟨Nat.zero_le _, Nat.zero_le _⟩ (W' := [cob oh 11 [.ref os, .ref ok, .ref ol, .ref ord, .int isk, .ref odd, .ref otp, .int (nI tpd), .ref olt, .int oat, .int obg, .int otk, .int ovl, .ref orw, .int (nI rmn), .ref oso, .ref osz, .ref oit, .ref oho, .ref ohe, .ref otr, .int (nI tcd), .int own_, .int opt], cin g os 51 (mR stp laws z cnt fogs arms kinds faiths places moved)]) rfl (fun H locs hw => ?_)
  refine lv_iadd hx hb dX11_sightOf_6 ?_
  refine lv_aload_n hx hb dX11_sightOf_7 rfl (lv_at hl 0 rfl) ?_
  refine mcV hf hk hst hw (c_X11_fogNow l g oh os ok ol ord odd otp olt orw oso osz oit oho ohe otr stp laws z cnt fogs arms kinds faiths places moved isk tpd oat obg otk ovl rmn tcd own_ opt (by omega)) (cwV 0 hts gX11_sightOf_X11_fogNow rfl rfl rfl hdV_X11_fogNow ⟨Nat.le_of_ble_eq_true rfl, Nat.le_of_ble_eq_true rfl⟩) [0, 1] rfl rfl 0 rfl rfl rfl hl.1 rfl (Nat.le_of_ble_eq_true rfl) dX11_sightOf_8 ⟨Nat.zero_le _, Nat.zero_le _⟩ (W' := [cob oh 11 [.ref os, .ref ok, .ref ol, .ref ord, .int isk, .ref odd, .ref otp, .int (nI tpd), .ref olt, .int oat, .int obg, .int otk, .int ovl, .ref orw, .int (nI rmn), .ref oso, .ref osz, .ref oit, .ref oho, .ref ohe, .ref otr, .int (nI tcd), .int own_, .int opt], cin g os 51 (mR stp laws z cnt fogs arms kinds faiths places moved)]) rfl (fun H locs hw => ?_)
  refine lv_isub hx hb dX11_sightOf_11 ?_
  refine lv_istore_n (lv' := [(2, .int ((8 + (arms (stp % 6))) - (fogs (stp % 6)))), (0, .ref oh), (1, .int (nI k))]) hx hb dX11_sightOf_12 rfl hl (by decide) rfl (fun ls hl => ?_)
  refine lv_aload_n hx hb dX11_sightOf_13 rfl (lv_at hl 1 rfl) ?_
  refine lv_iload_n hx hb dX11_sightOf_14 rfl (lv_at hl 2 rfl) ?_
  refine lv_iconst (v := 0) hx hb dX11_sightOf_15 (by decide) ?_
  refine mcV hf hk hst hw (c_X11_get0 l g oh os ok ol ord odd otp olt orw oso osz oit oho ohe otr stp laws z cnt fogs arms kinds faiths places moved isk tpd oat obg otk ovl rmn tcd own_ opt k (by omega)) (cwV 2 hts gX11_sightOf_X11_get rfl rfl rfl hdV_X11_get ⟨Nat.le_of_ble_eq_true rfl, Nat.le_of_ble_eq_true rfl⟩) [0, 1] rfl rfl 0 rfl rfl rfl hl.1 rfl (Nat.le_of_ble_eq_true rfl) dX11_sightOf_16 ⟨Nat.zero_le _, Nat.zero_le _⟩ (W' := [cob oh 11 [.ref os, .ref ok, .ref ol, .ref ord, .int isk, .ref odd, .ref otp, .int (nI tpd), .ref olt, .int oat, .int obg, .int otk, .int ovl, .ref orw, .int (nI rmn), .ref oso, .ref osz, .ref oit, .ref oho, .ref ohe, .ref otr, .int (nI tcd), .int own_, .int opt], cin g os 51 (mR stp laws z cnt fogs arms kinds faiths places moved)]) rfl (fun H locs hw => ?_)
  by_cases c_2 : (kinds k) = 1
  · refine lv_tableIn (off := 33) (tgt := 52) hx hb dX11_sightOf_19 (by rw [c_2]; decide) (by rw [c_2]; decide) (by rw [c_2]; rfl) (by decide) ?_
    refine lv_iload_n hx hb dX11_sightOf_52 rfl (lv_at hl 0 rfl) ?_
    refine lv_iconst (v := 4) hx hb dX11_sightOf_53 (by decide) ?_
    refine lv_iadd hx hb dX11_sightOf_54 ?_
    exact re_i hf hr hlk hw (by unfold sightF; rw [c_2]; exact congrArg Value.int (rfl)) (rfl) dX11_sightOf_55
  by_cases c_3 : (kinds k) = 2
  · refine lv_tableIn (off := 37) (tgt := 56) hx hb dX11_sightOf_19 (by rw [c_3]; decide) (by rw [c_3]; decide) (by rw [c_3]; rfl) (by decide) ?_
    refine lv_iload_n hx hb dX11_sightOf_56 rfl (lv_at hl 0 rfl) ?_
    refine lv_iconst (v := 2) hx hb dX11_sightOf_57 (by decide) ?_
    refine lv_isub hx hb dX11_sightOf_58 ?_
    exact re_i hf hr hlk hw (by unfold sightF; rw [c_3]; exact congrArg Value.int (rfl)) (rfl) dX11_sightOf_59
  by_cases c_4 : (kinds k) = 3
  · refine lv_tableIn (off := 41) (tgt := 60) hx hb dX11_sightOf_19 (by rw [c_4]; decide) (by rw [c_4]; decide) (by rw [c_4]; rfl) (by decide) ?_
    refine lv_iload_n hx hb dX11_sightOf_60 rfl (lv_at hl 0 rfl) ?_
    refine lv_iconst (v := 4) hx hb dX11_sightOf_61 (by decide) ?_
    refine lv_iadd hx hb dX11_sightOf_62 ?_
    refine lv_aload_n hx hb dX11_sightOf_63 rfl (lv_at hl 1 rfl) ?_
    refine mcV hf hk hst hw (c_X11_fogNow l g oh os ok ol ord odd otp olt orw oso osz oit oho ohe otr stp laws z cnt fogs arms kinds faiths places moved isk tpd oat obg otk ovl rmn tcd own_ opt (by omega)) (cwV 0 hts gX11_sightOf_X11_fogNow rfl rfl rfl hdV_X11_fogNow ⟨Nat.le_of_ble_eq_true rfl, Nat.le_of_ble_eq_true rfl⟩) [0, 1] rfl rfl 0 rfl rfl rfl hl.1 rfl (Nat.le_of_ble_eq_true rfl) dX11_sightOf_64 ⟨Nat.zero_le _, Nat.zero_le _⟩ (W' := [cob oh 11 [.ref os, .ref ok, .ref ol, .ref ord, .int isk, .ref odd, .ref otp, .int (nI tpd), .ref olt, .int oat, .int obg, .int otk, .int ovl, .ref orw, .int (nI rmn), .ref oso, .ref osz, .ref oit, .ref oho, .ref ohe, .ref otr, .int (nI tcd), .int own_, .int opt], cin g os 51 (mR stp laws z cnt fogs arms kinds faiths places moved)]) rfl (fun H locs hw => ?_)
    refine lv_iconst (v := 2) hx hb dX11_sightOf_67 (by decide) ?_
    refine lv_idiv hx hb dX11_sightOf_68 (by decide) ?_
    refine lv_isub hx hb dX11_sightOf_69 ?_
    exact re_i hf hr hlk hw (by unfold sightF; rw [c_4]; exact congrArg Value.int (rfl)) (rfl) dX11_sightOf_70
  by_cases c_5 : (kinds k) = 4
  · refine lv_tableIn (off := 52) (tgt := 71) hx hb dX11_sightOf_19 (by rw [c_5]; decide) (by rw [c_5]; decide) (by rw [c_5]; rfl) (by decide) ?_
    refine lv_iload_n hx hb dX11_sightOf_71 rfl (lv_at hl 0 rfl) ?_
    refine lv_iconst (v := 2) hx hb dX11_sightOf_72 (by decide) ?_
    refine lv_isub hx hb dX11_sightOf_73 ?_
    refine lv_aload_n hx hb dX11_sightOf_74 rfl (lv_at hl 1 rfl) ?_
    refine rg hf hk hw hinX11 0 rfl rfl 0 (by decide) w_0 rfl dX11_sightOf_75 ?_
    refine lv_iconst (v := 1) hx hb dX11_sightOf_78 (by decide) ?_
    refine rij hf hk hw 1 rfl (j := 1) (vp_in_nI (n := 1) (by omega) (by omega)) (rfl) dX11_sightOf_79 ?_
    refine lv_tope (y := laws 0) (rfl) ?_
    refine lv_iadd hx hb dX11_sightOf_80 ?_
    exact re_i hf hr hlk hw (by unfold sightF; rw [c_5]; exact congrArg Value.int (rfl)) (rfl) dX11_sightOf_81
  by_cases c_6 : (kinds k) = 5
  · refine lv_tableIn (off := 63) (tgt := 82) hx hb dX11_sightOf_19 (by rw [c_6]; decide) (by rw [c_6]; decide) (by rw [c_6]; rfl) (by decide) ?_
    refine lv_iconst (v := 2) hx hb dX11_sightOf_82 (by decide) ?_
    refine lv_aload_n hx hb dX11_sightOf_83 rfl (lv_at hl 1 rfl) ?_
    refine rg hf hk hw hinX11 0 rfl rfl 0 (by decide) w_0 rfl dX11_sightOf_84 ?_
    refine lv_iconst (v := 1) hx hb dX11_sightOf_87 (by decide) ?_
    refine rij hf hk hw 1 rfl (j := 1) (vp_in_nI (n := 1) (by omega) (by omega)) (rfl) dX11_sightOf_88 ?_
    refine lv_tope (y := laws 0) (rfl) ?_
    refine lv_imul hx hb dX11_sightOf_89 ?_
    exact re_i hf hr hlk hw (by unfold sightF; rw [c_6]; exact congrArg Value.int (s5 _)) (rfl) dX11_sightOf_90
  refine lv_tableOut (tgt := 91) hx hb dX11_sightOf_19 (sw_o2 1 5 [1, 2, 3, 4, 5] (by decide) (by decide) (by simp only [List.mem_cons, List.not_mem_nil, or_false, not_or]; exact ⟨c_2, c_3, c_4, c_5, c_6⟩)) (by decide) ?_
  refine lv_iload_n hx hb dX11_sightOf_91 rfl (lv_at hl 0 rfl) ?_
  exact re_i hf hr hlk hw (by unfold sightF; rw [if_neg c_2, if_neg c_3, if_neg c_4, if_neg c_5, if_neg c_6]) (rfl) dX11_sightOf_92
theorem hdV_X11_sightOf : yX11_sightOf.cls = RX11 ∧ yX11_sightOf.cls ≠ "java/lang/invoke/MethodHandle" ∧ yX11_sightOf.cls ≠ "java/lang/invoke/VarHandle" ∧ (parseMethodDescriptor yX11_sightOf.desc).map (fun d => d.parameters.length) = some 1 := by decide +kernel
abbrev rmX11_doesSee : Room := { frames := 2, cells := 0, slots := 0, locals := 44 }
set_option maxHeartbeats 4000000 in
set_option maxRecDepth 100000 in
theorem c_X11_doesSee (l : Launch) (g : GG) (oh : Nat) (os : Nat) (ok : Nat) (ol : Nat) (ord : Nat) (odd : Nat) (otp : Nat) (olt : Nat) (orw : Nat) (oso : Nat) (osz : Nat) (oit : Nat) (oho : Nat) (ohe : Nat) (otr : Nat) (stp : Nat) (laws : Nat → Int32) (z : Int32) (cnt : Nat) (fogs : Nat → Int32) (arms : Nat → Int32) (kinds : Nat → Int32) (faiths : Nat → Int32) (places : Nat → Int32) (moved : Nat → Int32) (isk : Int32) (tpd : Nat) (oat : Int32) (obg : Int32) (otk : Int32) (ovl : Int32) (rmn : Nat) (tcd : Nat) (own_ : Int32) (opt : Int32) (k : Nat) (hk8 : k < 8) (hsp : stp < 2 ^ 30) : mt l g yX11_doesSee wsX11_doesSee rmX11_doesSee [.ref oh, .int (nI k)] [cob oh 11 [.ref os, .ref ok, .ref ol, .ref ord, .int isk, .ref odd, .ref otp, .int (nI tpd), .ref olt, .int oat, .int obg, .int otk, .int ovl, .ref orw, .int (nI rmn), .ref oso, .ref osz, .ref oit, .ref oho, .ref ohe, .ref otr, .int (nI tcd), .int own_, .int opt], cin g os 51 (mR stp laws z cnt fogs arms kinds faiths places moved)] (some (.int (seesF (kinds k) (fogs (stp % 6)) (arms (stp % 6)) (laws 0) (places k)))) [cob oh 11 [.ref os, .ref ok, .ref ol, .ref ord, .int isk, .ref odd, .ref otp, .int (nI tpd), .ref olt, .int oat, .int obg, .int otk, .int ovl, .ref orw, .int (nI rmn), .ref oso, .ref osz, .ref oit, .ref oho, .ref ohe, .ref otr, .int (nI tcd), .int own_, .int opt], cin g os 51 (mR stp laws z cnt fogs arms kinds faiths places moved)] := by
  refine mt.of (cc := cX11_doesSee) (nL := 2) (ret := (some .boolean)) (own := RX11) (by decide +kernel) rfl rfl (show ([oh, os] : List Nat) = [oh, os] from rfl) (Nat.le_of_ble_eq_true rfl) (fun p e s m below meth c hf hr hlk _ hk hst hw ls hl => ?_)
  have hx := hf.1
  have hb := hf.2.1
  have hts := hf.2.2.2.2
  have hl : lv_has ls 2 [(0, .ref oh), (1, .int (nI k))] := hl
  refine lv_bipush (v := 12) hx hb dX11_doesSee_0 (by decide) ?_
  refine lv_aload_n hx hb dX11_doesSee_2 rfl (lv_at hl 0 rfl) ?_
  refine lv_iload_n hx hb dX11_doesSee_3 rfl (lv_at hl 1 rfl) ?_
  refine lv_iconst (v := 2) hx hb dX11_doesSee_4 (by decide) ?_
  refine mcV hf hk hst hw (c_X11_get2 l g oh os ok ol ord odd otp olt orw oso osz oit oho ohe otr stp laws z cnt fogs arms kinds faiths places moved isk tpd oat obg otk ovl rmn tcd own_ opt k (by omega)) (cwV 2 hts gX11_doesSee_X11_get rfl rfl rfl hdV_X11_get ⟨Nat.le_of_ble_eq_true rfl, Nat.le_of_ble_eq_true rfl⟩) [0, 1] rfl rfl 0 rfl rfl rfl hl.1 rfl (Nat.le_of_ble_eq_true rfl) dX11_doesSee_5 ⟨Nat.zero_le _, Nat.zero_le _⟩ (W' := [cob oh 11 [.ref os, .ref ok, .ref ol, .ref ord, .int isk, .ref odd, .ref otp, .int (nI tpd), .ref olt, .int oat, .int obg, .int otk, .int ovl, .ref orw, .int (nI rmn), .ref oso, .ref osz, .ref oit, .ref oho, .ref ohe, .ref otr, .int (nI tcd), .int own_, .int opt], cin g os 51 (mR stp laws z cnt fogs arms kinds faiths places moved)]) rfl (fun H locs hw => ?_)
  refine lv_isub hx hb dX11_doesSee_8 ?_
  refine lv_aload_n hx hb dX11_doesSee_9 rfl (lv_at hl 0 rfl) ?_
  refine lv_iload_n hx hb dX11_doesSee_10 rfl (lv_at hl 1 rfl) ?_
  refine mcV hf hk hst hw (c_X11_sightOf l g oh os ok ol ord odd otp olt orw oso osz oit oho ohe otr stp laws z cnt fogs arms kinds faiths places moved isk tpd oat obg otk ovl rmn tcd own_ opt k (by omega) (by omega)) (cwV 1 hts gX11_doesSee_X11_sightOf rfl rfl rfl hdV_X11_sightOf ⟨Nat.le_of_ble_eq_true rfl, Nat.le_of_ble_eq_true rfl⟩) [0, 1] rfl rfl 0 rfl rfl rfl hl.1 rfl (Nat.le_of_ble_eq_true rfl) dX11_doesSee_11 ⟨Nat.zero_le _, Nat.zero_le _⟩ (W' := [cob oh 11 [.ref os, .ref ok, .ref ol, .ref ord, .int isk, .ref odd, .ref otp, .int (nI tpd), .ref olt, .int oat, .int obg, .int otk, .int ovl, .ref orw, .int (nI rmn), .ref oso, .ref osz, .ref oit, .ref oho, .ref ohe, .ref otr, .int (nI tcd), .int own_, .int opt], cin g os 51 (mR stp laws z cnt fogs arms kinds faiths places moved)]) rfl (fun H locs hw => ?_)
  refine lv_icmp_gt (tgt := 21) hx hb dX11_doesSee_14 (by decide) (fun c_1 => ?_) (fun c_1 => ?_)
  · refine lv_iconst (v := 0) hx hb dX11_doesSee_21 (by decide) ?_
    exact re_z hf hr hlk hw (rfl) (by unfold seesF; rw [if_pos c_1]) (rfl) dX11_doesSee_22
  · refine lv_iconst (v := 1) hx hb dX11_doesSee_17 (by decide) ?_
    refine lv_goto (tgt := 22) hx hb dX11_doesSee_18 (by decide) ?_
    exact re_z hf hr hlk hw (rfl) (by unfold seesF; rw [if_neg c_1]) (rfl) dX11_doesSee_22
abbrev rmX11_keenOf : Room := { frames := 1, cells := 0, slots := 0, locals := 22 }
set_option maxHeartbeats 4000000 in
set_option maxRecDepth 100000 in
theorem c_X11_keenOf (l : Launch) (g : GG) (oh : Nat) (os : Nat) (ok : Nat) (ol : Nat) (ord : Nat) (odd : Nat) (otp : Nat) (olt : Nat) (orw : Nat) (oso : Nat) (osz : Nat) (oit : Nat) (oho : Nat) (ohe : Nat) (otr : Nat) (stp : Nat) (laws : Nat → Int32) (z : Int32) (cnt : Nat) (fogs : Nat → Int32) (arms : Nat → Int32) (kinds : Nat → Int32) (faiths : Nat → Int32) (places : Nat → Int32) (moved : Nat → Int32) (isk : Int32) (tpd : Nat) (oat : Int32) (obg : Int32) (otk : Int32) (ovl : Int32) (rmn : Nat) (tcd : Nat) (own_ : Int32) (opt : Int32) (k : Nat) (hk8 : k < 8) (hsp : stp < 2 ^ 30) : mt l g yX11_keenOf wsX11_keenOf rmX11_keenOf [.ref oh, .int (nI k)] [cob oh 11 [.ref os, .ref ok, .ref ol, .ref ord, .int isk, .ref odd, .ref otp, .int (nI tpd), .ref olt, .int oat, .int obg, .int otk, .int ovl, .ref orw, .int (nI rmn), .ref oso, .ref osz, .ref oit, .ref oho, .ref ohe, .ref otr, .int (nI tcd), .int own_, .int opt], cin g os 51 (mR stp laws z cnt fogs arms kinds faiths places moved)] (some (.int (keenF (kinds k) (arms (stp % 6)) (laws 0)))) [cob oh 11 [.ref os, .ref ok, .ref ol, .ref ord, .int isk, .ref odd, .ref otp, .int (nI tpd), .ref olt, .int oat, .int obg, .int otk, .int ovl, .ref orw, .int (nI rmn), .ref oso, .ref osz, .ref oit, .ref oho, .ref ohe, .ref otr, .int (nI tcd), .int own_, .int opt], cin g os 51 (mR stp laws z cnt fogs arms kinds faiths places moved)] := by
  refine mt.of (cc := cX11_keenOf) (nL := 2) (ret := (some .int)) (own := RX11) (by decide +kernel) rfl rfl (show ([oh, os] : List Nat) = [oh, os] from rfl) (Nat.le_of_ble_eq_true rfl) (fun p e s m below meth c hf hr hlk _ hk hst hw ls hl => ?_)
  have hx := hf.1
  have hb := hf.2.1
  have hts := hf.2.2.2.2
  have hl : lv_has ls 2 [(0, .ref oh), (1, .int (nI k))] := hl
  have hinX11 : ∀ w ∈ u_ws RX11 TX11 24, w ∈ wsX11_keenOf := fun w h => List.mem_cons_of_mem _ (List.mem_append_right _ h)
  have w_0 : Cond.fieldLink RX11 9 "LightManModel" "s" "[I" ∈ wsX11_keenOf := List.mem_of_getElem? (i := 1) rfl
  refine lv_aload_n hx hb dX11_keenOf_0 rfl (lv_at hl 0 rfl) ?_
  refine lv_iload_n hx hb dX11_keenOf_1 rfl (lv_at hl 1 rfl) ?_
  refine lv_iconst (v := 0) hx hb dX11_keenOf_2 (by decide) ?_
  refine mcV hf hk hst hw (c_X11_get0 l g oh os ok ol ord odd otp olt orw oso osz oit oho ohe otr stp laws z cnt fogs arms kinds faiths places moved isk tpd oat obg otk ovl rmn tcd own_ opt k (by omega)) (cwV 2 hts gX11_keenOf_X11_get rfl rfl rfl hdV_X11_get ⟨Nat.le_of_ble_eq_true rfl, Nat.le_of_ble_eq_true rfl⟩) [0, 1] rfl rfl 0 rfl rfl rfl hl.1 rfl (Nat.le_of_ble_eq_true rfl) dX11_keenOf_3 ⟨Nat.zero_le _, Nat.zero_le _⟩ (W' := [cob oh 11 [.ref os, .ref ok, .ref ol, .ref ord, .int isk, .ref odd, .ref otp, .int (nI tpd), .ref olt, .int oat, .int obg, .int otk, .int ovl, .ref orw, .int (nI rmn), .ref oso, .ref osz, .ref oit, .ref oho, .ref ohe, .ref otr, .int (nI tcd), .int own_, .int opt], cin g os 51 (mR stp laws z cnt fogs arms kinds faiths places moved)]) rfl (fun H locs hw => ?_)
  by_cases c_2 : (kinds k) = 1
  · refine lv_tableIn (off := 34) (tgt := 40) hx hb dX11_keenOf_6 (by rw [c_2]; decide) (by rw [c_2]; decide) (by rw [c_2]; rfl) (by decide) ?_
    refine lv_iconst (v := 3) hx hb dX11_keenOf_40 (by decide) ?_
    refine lv_aload_n hx hb dX11_keenOf_41 rfl (lv_at hl 0 rfl) ?_
    refine mcV hf hk hst hw (c_X11_armsNow l g oh os ok ol ord odd otp olt orw oso osz oit oho ohe otr stp laws z cnt fogs arms kinds faiths places moved isk tpd oat obg otk ovl rmn tcd own_ opt (by omega)) (cwV 0 hts gX11_keenOf_X11_armsNow rfl rfl rfl hdV_X11_armsNow ⟨Nat.le_of_ble_eq_true rfl, Nat.le_of_ble_eq_true rfl⟩) [0, 1] rfl rfl 0 rfl rfl rfl hl.1 rfl (Nat.le_of_ble_eq_true rfl) dX11_keenOf_42 ⟨Nat.zero_le _, Nat.zero_le _⟩ (W' := [cob oh 11 [.ref os, .ref ok, .ref ol, .ref ord, .int isk, .ref odd, .ref otp, .int (nI tpd), .ref olt, .int oat, .int obg, .int otk, .int ovl, .ref orw, .int (nI rmn), .ref oso, .ref osz, .ref oit, .ref oho, .ref ohe, .ref otr, .int (nI tcd), .int own_, .int opt], cin g os 51 (mR stp laws z cnt fogs arms kinds faiths places moved)]) rfl (fun H locs hw => ?_)
    refine lv_iadd hx hb dX11_keenOf_45 ?_
    exact re_i hf hr hlk hw (by unfold keenF; rw [c_2]; exact congrArg Value.int (rfl)) (rfl) dX11_keenOf_46
  by_cases c_3 : (kinds k) = 2
  · refine lv_tableIn (off := 41) (tgt := 47) hx hb dX11_keenOf_6 (by rw [c_3]; decide) (by rw [c_3]; decide) (by rw [c_3]; rfl) (by decide) ?_
    refine lv_bipush (v := 6) hx hb dX11_keenOf_47 (by decide) ?_
    exact re_i hf hr hlk hw (by unfold keenF; rw [c_3]; exact congrArg Value.int (rfl)) (rfl) dX11_keenOf_49
  by_cases c_4 : (kinds k) = 3
  · refine lv_tableIn (off := 44) (tgt := 50) hx hb dX11_keenOf_6 (by rw [c_4]; decide) (by rw [c_4]; decide) (by rw [c_4]; rfl) (by decide) ?_
    refine lv_iconst (v := 2) hx hb dX11_keenOf_50 (by decide) ?_
    refine lv_aload_n hx hb dX11_keenOf_51 rfl (lv_at hl 0 rfl) ?_
    refine mcV hf hk hst hw (c_X11_armsNow l g oh os ok ol ord odd otp olt orw oso osz oit oho ohe otr stp laws z cnt fogs arms kinds faiths places moved isk tpd oat obg otk ovl rmn tcd own_ opt (by omega)) (cwV 0 hts gX11_keenOf_X11_armsNow rfl rfl rfl hdV_X11_armsNow ⟨Nat.le_of_ble_eq_true rfl, Nat.le_of_ble_eq_true rfl⟩) [0, 1] rfl rfl 0 rfl rfl rfl hl.1 rfl (Nat.le_of_ble_eq_true rfl) dX11_keenOf_52 ⟨Nat.zero_le _, Nat.zero_le _⟩ (W' := [cob oh 11 [.ref os, .ref ok, .ref ol, .ref ord, .int isk, .ref odd, .ref otp, .int (nI tpd), .ref olt, .int oat, .int obg, .int otk, .int ovl, .ref orw, .int (nI rmn), .ref oso, .ref osz, .ref oit, .ref oho, .ref ohe, .ref otr, .int (nI tcd), .int own_, .int opt], cin g os 51 (mR stp laws z cnt fogs arms kinds faiths places moved)]) rfl (fun H locs hw => ?_)
    refine lv_iadd hx hb dX11_keenOf_55 ?_
    exact re_i hf hr hlk hw (by unfold keenF; rw [c_4]; exact congrArg Value.int (kn3 _)) (rfl) dX11_keenOf_56
  by_cases c_5 : (kinds k) = 4
  · refine lv_tableIn (off := 51) (tgt := 57) hx hb dX11_keenOf_6 (by rw [c_5]; decide) (by rw [c_5]; decide) (by rw [c_5]; rfl) (by decide) ?_
    refine lv_bipush (v := 8) hx hb dX11_keenOf_57 (by decide) ?_
    exact re_i hf hr hlk hw (by unfold keenF; rw [c_5]; exact congrArg Value.int (rfl)) (rfl) dX11_keenOf_59
  by_cases c_6 : (kinds k) = 5
  · refine lv_tableIn (off := 54) (tgt := 60) hx hb dX11_keenOf_6 (by rw [c_6]; decide) (by rw [c_6]; decide) (by rw [c_6]; rfl) (by decide) ?_
    refine lv_iconst (v := 3) hx hb dX11_keenOf_60 (by decide) ?_
    refine lv_aload_n hx hb dX11_keenOf_61 rfl (lv_at hl 0 rfl) ?_
    refine rg hf hk hw hinX11 0 rfl rfl 0 (by decide) w_0 rfl dX11_keenOf_62 ?_
    refine lv_iconst (v := 1) hx hb dX11_keenOf_65 (by decide) ?_
    refine rij hf hk hw 1 rfl (j := 1) (vp_in_nI (n := 1) (by omega) (by omega)) (rfl) dX11_keenOf_66 ?_
    refine lv_tope (y := laws 0) (rfl) ?_
    refine lv_iadd hx hb dX11_keenOf_67 ?_
    exact re_i hf hr hlk hw (by unfold keenF; rw [c_6]; exact congrArg Value.int (rfl)) (rfl) dX11_keenOf_68
  refine lv_tableOut (tgt := 69) hx hb dX11_keenOf_6 (sw_o2 1 5 [1, 2, 3, 4, 5] (by decide) (by decide) (by simp only [List.mem_cons, List.not_mem_nil, or_false, not_or]; exact ⟨c_2, c_3, c_4, c_5, c_6⟩)) (by decide) ?_
  refine lv_iconst (v := 3) hx hb dX11_keenOf_69 (by decide) ?_
  exact re_i hf hr hlk hw (by unfold keenF; rw [if_neg c_2, if_neg c_3, if_neg c_4, if_neg c_5, if_neg c_6]) (rfl) dX11_keenOf_70
abbrev rmX11_fearsOf : Room := { frames := 1, cells := 0, slots := 0, locals := 22 }
set_option maxHeartbeats 4000000 in
set_option maxRecDepth 100000 in
theorem c_X11_fearsOf (l : Launch) (g : GG) (oh : Nat) (os : Nat) (ok : Nat) (ol : Nat) (ord : Nat) (odd : Nat) (otp : Nat) (olt : Nat) (orw : Nat) (oso : Nat) (osz : Nat) (oit : Nat) (oho : Nat) (ohe : Nat) (otr : Nat) (stp : Nat) (laws : Nat → Int32) (z : Int32) (cnt : Nat) (fogs : Nat → Int32) (arms : Nat → Int32) (kinds : Nat → Int32) (faiths : Nat → Int32) (places : Nat → Int32) (moved : Nat → Int32) (isk : Int32) (tpd : Nat) (oat : Int32) (obg : Int32) (otk : Int32) (ovl : Int32) (rmn : Nat) (tcd : Nat) (own_ : Int32) (opt : Int32) (k : Nat) (hk8 : k < 8) (hsp : stp < 2 ^ 30) : mt l g yX11_fearsOf wsX11_fearsOf rmX11_fearsOf [.ref oh, .int (nI k)] [cob oh 11 [.ref os, .ref ok, .ref ol, .ref ord, .int isk, .ref odd, .ref otp, .int (nI tpd), .ref olt, .int oat, .int obg, .int otk, .int ovl, .ref orw, .int (nI rmn), .ref oso, .ref osz, .ref oit, .ref oho, .ref ohe, .ref otr, .int (nI tcd), .int own_, .int opt], cin g os 51 (mR stp laws z cnt fogs arms kinds faiths places moved)] (some (.int (fearsF (kinds k) (fogs (stp % 6))))) [cob oh 11 [.ref os, .ref ok, .ref ol, .ref ord, .int isk, .ref odd, .ref otp, .int (nI tpd), .ref olt, .int oat, .int obg, .int otk, .int ovl, .ref orw, .int (nI rmn), .ref oso, .ref osz, .ref oit, .ref oho, .ref ohe, .ref otr, .int (nI tcd), .int own_, .int opt], cin g os 51 (mR stp laws z cnt fogs arms kinds faiths places moved)] := by
  refine mt.of (cc := cX11_fearsOf) (nL := 2) (ret := (some .int)) (own := RX11) (by decide +kernel) rfl rfl (show ([oh, os] : List Nat) = [oh, os] from rfl) (Nat.le_of_ble_eq_true rfl) (fun p e s m below meth c hf hr hlk _ hk hst hw ls hl => ?_)
  have hx := hf.1
  have hb := hf.2.1
  have hts := hf.2.2.2.2
  have hl : lv_has ls 2 [(0, .ref oh), (1, .int (nI k))] := hl
  refine lv_aload_n hx hb dX11_fearsOf_0 rfl (lv_at hl 0 rfl) ?_
  refine lv_iload_n hx hb dX11_fearsOf_1 rfl (lv_at hl 1 rfl) ?_
  refine lv_iconst (v := 0) hx hb dX11_fearsOf_2 (by decide) ?_
  refine mcV hf hk hst hw (c_X11_get0 l g oh os ok ol ord odd otp olt orw oso osz oit oho ohe otr stp laws z cnt fogs arms kinds faiths places moved isk tpd oat obg otk ovl rmn tcd own_ opt k (by omega)) (cwV 2 hts gX11_fearsOf_X11_get rfl rfl rfl hdV_X11_get ⟨Nat.le_of_ble_eq_true rfl, Nat.le_of_ble_eq_true rfl⟩) [0, 1] rfl rfl 0 rfl rfl rfl hl.1 rfl (Nat.le_of_ble_eq_true rfl) dX11_fearsOf_3 ⟨Nat.zero_le _, Nat.zero_le _⟩ (W' := [cob oh 11 [.ref os, .ref ok, .ref ol, .ref ord, .int isk, .ref odd, .ref otp, .int (nI tpd), .ref olt, .int oat, .int obg, .int otk, .int ovl, .ref orw, .int (nI rmn), .ref oso, .ref osz, .ref oit, .ref oho, .ref ohe, .ref otr, .int (nI tcd), .int own_, .int opt], cin g os 51 (mR stp laws z cnt fogs arms kinds faiths places moved)]) rfl (fun H locs hw => ?_)
  by_cases c_2 : (kinds k) = 1
  · refine lv_tableIn (off := 34) (tgt := 40) hx hb dX11_fearsOf_6 (by rw [c_2]; decide) (by rw [c_2]; decide) (by rw [c_2]; rfl) (by decide) ?_
    refine lv_iconst (v := (-1)) hx hb dX11_fearsOf_40 (by decide) ?_
    exact re_i hf hr hlk hw (by unfold fearsF; rw [c_2]; exact congrArg Value.int (rfl)) (rfl) dX11_fearsOf_41
  by_cases c_3 : (kinds k) = 2
  · refine lv_tableIn (off := 36) (tgt := 42) hx hb dX11_fearsOf_6 (by rw [c_3]; decide) (by rw [c_3]; decide) (by rw [c_3]; rfl) (by decide) ?_
    refine lv_iconst (v := 3) hx hb dX11_fearsOf_42 (by decide) ?_
    exact re_i hf hr hlk hw (by unfold fearsF; rw [c_3]; exact congrArg Value.int (rfl)) (rfl) dX11_fearsOf_43
  by_cases c_4 : (kinds k) = 3
  · refine lv_tableIn (off := 38) (tgt := 44) hx hb dX11_fearsOf_6 (by rw [c_4]; decide) (by rw [c_4]; decide) (by rw [c_4]; rfl) (by decide) ?_
    refine lv_aload_n hx hb dX11_fearsOf_44 rfl (lv_at hl 0 rfl) ?_
    refine mcV hf hk hst hw (c_X11_fogNow l g oh os ok ol ord odd otp olt orw oso osz oit oho ohe otr stp laws z cnt fogs arms kinds faiths places moved isk tpd oat obg otk ovl rmn tcd own_ opt (by omega)) (cwV 0 hts gX11_fearsOf_X11_fogNow rfl rfl rfl hdV_X11_fogNow ⟨Nat.le_of_ble_eq_true rfl, Nat.le_of_ble_eq_true rfl⟩) [0, 1] rfl rfl 0 rfl rfl rfl hl.1 rfl (Nat.le_of_ble_eq_true rfl) dX11_fearsOf_45 ⟨Nat.zero_le _, Nat.zero_le _⟩ (W' := [cob oh 11 [.ref os, .ref ok, .ref ol, .ref ord, .int isk, .ref odd, .ref otp, .int (nI tpd), .ref olt, .int oat, .int obg, .int otk, .int ovl, .ref orw, .int (nI rmn), .ref oso, .ref osz, .ref oit, .ref oho, .ref ohe, .ref otr, .int (nI tcd), .int own_, .int opt], cin g os 51 (mR stp laws z cnt fogs arms kinds faiths places moved)]) rfl (fun H locs hw => ?_)
    refine lv_iconst (v := 1) hx hb dX11_fearsOf_48 (by decide) ?_
    refine lv_isub hx hb dX11_fearsOf_49 ?_
    exact re_i hf hr hlk hw (by unfold fearsF; rw [c_4]; exact congrArg Value.int (fe3 _)) (rfl) dX11_fearsOf_50
  by_cases c_5 : (kinds k) = 4
  · refine lv_tableIn (off := 45) (tgt := 51) hx hb dX11_fearsOf_6 (by rw [c_5]; decide) (by rw [c_5]; decide) (by rw [c_5]; rfl) (by decide) ?_
    refine lv_bipush (v := 6) hx hb dX11_fearsOf_51 (by decide) ?_
    exact re_i hf hr hlk hw (by unfold fearsF; rw [c_5]; exact congrArg Value.int (rfl)) (rfl) dX11_fearsOf_53
  by_cases c_6 : (kinds k) = 5
  · refine lv_tableIn (off := 48) (tgt := 54) hx hb dX11_fearsOf_6 (by rw [c_6]; decide) (by rw [c_6]; decide) (by rw [c_6]; rfl) (by decide) ?_
    refine lv_iconst (v := 5) hx hb dX11_fearsOf_54 (by decide) ?_
    exact re_i hf hr hlk hw (by unfold fearsF; rw [c_6]; exact congrArg Value.int (rfl)) (rfl) dX11_fearsOf_55
  refine lv_tableOut (tgt := 56) hx hb dX11_fearsOf_6 (sw_o2 1 5 [1, 2, 3, 4, 5] (by decide) (by decide) (by simp only [List.mem_cons, List.not_mem_nil, or_false, not_or]; exact ⟨c_2, c_3, c_4, c_5, c_6⟩)) (by decide) ?_
  refine lv_iconst (v := 2) hx hb dX11_fearsOf_56 (by decide) ?_
  exact re_i hf hr hlk hw (by unfold fearsF; rw [if_neg c_2, if_neg c_3, if_neg c_4, if_neg c_5, if_neg c_6]) (rfl) dX11_fearsOf_57
theorem hdV_X11_doesSee : yX11_doesSee.cls = RX11 ∧ yX11_doesSee.cls ≠ "java/lang/invoke/MethodHandle" ∧ yX11_doesSee.cls ≠ "java/lang/invoke/VarHandle" ∧ (parseMethodDescriptor yX11_doesSee.desc).map (fun d => d.parameters.length) = some 1 := by decide +kernel
abbrev rmX11_paceOf : Room := { frames := 3, cells := 0, slots := 0, locals := 65 }
set_option maxHeartbeats 4000000 in
set_option maxRecDepth 100000 in
theorem c_X11_paceOf (l : Launch) (g : GG) (oh : Nat) (os : Nat) (ok : Nat) (ol : Nat) (ord : Nat) (odd : Nat) (otp : Nat) (olt : Nat) (orw : Nat) (oso : Nat) (osz : Nat) (oit : Nat) (oho : Nat) (ohe : Nat) (otr : Nat) (stp : Nat) (laws : Nat → Int32) (z : Int32) (cnt : Nat) (fogs : Nat → Int32) (arms : Nat → Int32) (kinds : Nat → Int32) (faiths : Nat → Int32) (places : Nat → Int32) (moved : Nat → Int32) (isk : Int32) (tpd : Nat) (oat : Int32) (obg : Int32) (otk : Int32) (ovl : Int32) (rmn : Nat) (tcd : Nat) (own_ : Int32) (opt : Int32) (k : Nat) (hk8 : k < 8) (hsp : stp < 2 ^ 30) : mt l g yX11_paceOf wsX11_paceOf rmX11_paceOf [.ref oh, .int (nI k)] [cob oh 11 [.ref os, .ref ok, .ref ol, .ref ord, .int isk, .ref odd, .ref otp, .int (nI tpd), .ref olt, .int oat, .int obg, .int otk, .int ovl, .ref orw, .int (nI rmn), .ref oso, .ref osz, .ref oit, .ref oho, .ref ohe, .ref otr, .int (nI tcd), .int own_, .int opt], cin g os 51 (mR stp laws z cnt fogs arms kinds faiths places moved)] (some (.int (paceF (kinds k) (nI stp) (seesF (kinds k) (fogs (stp % 6)) (arms (stp % 6)) (laws 0) (places k))))) [cob oh 11 [.ref os, .ref ok, .ref ol, .ref ord, .int isk, .ref odd, .ref otp, .int (nI tpd), .ref olt, .int oat, .int obg, .int otk, .int ovl, .ref orw, .int (nI rmn), .ref oso, .ref osz, .ref oit, .ref oho, .ref ohe, .ref otr, .int (nI tcd), .int own_, .int opt], cin g os 51 (mR stp laws z cnt fogs arms kinds faiths places moved)] := by
  refine mt.of (cc := cX11_paceOf) (nL := 2) (ret := (some .int)) (own := RX11) (by decide +kernel) rfl rfl (show ([oh, os] : List Nat) = [oh, os] from rfl) (Nat.le_of_ble_eq_true rfl) (fun p e s m below meth c hf hr hlk _ hk hst hw ls hl => ?_)
  have hx := hf.1
  have hb := hf.2.1
  have hts := hf.2.2.2.2
  have hl : lv_has ls 2 [(0, .ref oh), (1, .int (nI k))] := hl
  have hinX11 : ∀ w ∈ u_ws RX11 TX11 24, w ∈ wsX11_paceOf := fun w h => List.mem_cons_of_mem _ (List.mem_append_right _ h)
  have w_0 : Cond.fieldLink RX11 9 "LightManModel" "s" "[I" ∈ wsX11_paceOf := List.mem_of_getElem? (i := 1) rfl
  refine lv_aload_n hx hb dX11_paceOf_0 rfl (lv_at hl 0 rfl) ?_
  refine lv_iload_n hx hb dX11_paceOf_1 rfl (lv_at hl 1 rfl) ?_
  refine lv_iconst (v := 0) hx hb dX11_paceOf_2 (by decide) ?_
  refine mcV hf hk hst hw (c_X11_get0 l g oh os ok ol ord odd otp olt orw oso osz oit oho ohe otr stp laws z cnt fogs arms kinds faiths places moved isk tpd oat obg otk ovl rmn tcd own_ opt k (by omega)) (cwV 2 hts gX11_paceOf_X11_get rfl rfl rfl hdV_X11_get ⟨Nat.le_of_ble_eq_true rfl, Nat.le_of_ble_eq_true rfl⟩) [0, 1] rfl rfl 0 rfl rfl rfl hl.1 rfl (Nat.le_of_ble_eq_true rfl) dX11_paceOf_3 ⟨Nat.zero_le _, Nat.zero_le _⟩ (W' := [cob oh 11 [.ref os, .ref ok, .ref ol, .ref ord, .int isk, .ref odd, .ref otp, .int (nI tpd), .ref olt, .int oat, .int obg, .int otk, .int ovl, .ref orw, .int (nI rmn), .ref oso, .ref osz, .ref oit, .ref oho, .ref ohe, .ref otr, .int (nI tcd), .int own_, .int opt], cin g os 51 (mR stp laws z cnt fogs arms kinds faiths places moved)]) rfl (fun H locs hw => ?_)
  by_cases c_2 : (kinds k) = 1
  · refine lv_tableIn (off := 34) (tgt := 40) hx hb dX11_paceOf_6 (by rw [c_2]; decide) (by rw [c_2]; decide) (by rw [c_2]; rfl) (by decide) ?_
    refine lv_iconst (v := 3) hx hb dX11_paceOf_40 (by decide) ?_
    exact re_i hf hr hlk hw (by unfold paceF; rw [c_2]; rfl) (rfl) dX11_paceOf_41
  by_cases c_3 : (kinds k) = 2
  · refine lv_tableIn (off := 69) (tgt := 75) hx hb dX11_paceOf_6 (by rw [c_3]; decide) (by rw [c_3]; decide) (by rw [c_3]; rfl) (by decide) ?_
    refine lv_iconst (v := 1) hx hb dX11_paceOf_75 (by decide) ?_
    exact re_i hf hr hlk hw (by unfold paceF; rw [c_3]; rfl) (rfl) dX11_paceOf_76
  by_cases c_4 : (kinds k) = 3
  · refine lv_tableIn (off := 36) (tgt := 42) hx hb dX11_paceOf_6 (by rw [c_4]; decide) (by rw [c_4]; decide) (by rw [c_4]; rfl) (by decide) ?_
    refine lv_iconst (v := 2) hx hb dX11_paceOf_42 (by decide) ?_
    exact re_i hf hr hlk hw (by unfold paceF; rw [c_4]; rfl) (rfl) dX11_paceOf_43
  by_cases c_5 : (kinds k) = 4
  · refine lv_tableIn (off := 38) (tgt := 44) hx hb dX11_paceOf_6 (by rw [c_5]; decide) (by rw [c_5]; decide) (by rw [c_5]; rfl) (by decide) ?_
    refine lv_aload_n hx hb dX11_paceOf_44 rfl (lv_at hl 0 rfl) ?_
    refine rg hf hk hw hinX11 0 rfl rfl 0 (by decide) w_0 rfl dX11_paceOf_45 ?_
    refine lv_iconst (v := 0) hx hb dX11_paceOf_48 (by decide) ?_
    refine rij hf hk hw 1 rfl (j := 0) (vp_in_nI (n := 0) (by omega) (by omega)) (rfl) dX11_paceOf_49 ?_
    refine lv_tope (y := nI stp) (rfl) ?_
    refine lv_iconst (v := 2) hx hb dX11_paceOf_50 (by decide) ?_
    refine lv_irem hx hb dX11_paceOf_51 (by decide) ?_
    refine lv_if_ne (tgt := 59) hx hb dX11_paceOf_52 (by decide) (fun c_6 => ?_) (fun c_6 => ?_)
    · refine lv_iconst (v := 0) hx hb dX11_paceOf_59 (by decide) ?_
      exact re_i hf hr hlk hw (by unfold paceF; rw [c_5]; exact congrArg Value.int (if_neg (show ¬ ((nI stp) - (nI stp) / 2 * 2) = 0 from c_6)).symm) (rfl) dX11_paceOf_60
    · refine lv_iconst (v := 1) hx hb dX11_paceOf_55 (by decide) ?_
      refine lv_goto (tgt := 60) hx hb dX11_paceOf_56 (by decide) ?_
      exact re_i hf hr hlk hw (by unfold paceF; rw [c_5]; exact congrArg Value.int (if_pos (show ((nI stp) - (nI stp) / 2 * 2) = 0 from c_6)).symm) (rfl) dX11_paceOf_60
  by_cases c_7 : (kinds k) = 5
  · refine lv_tableIn (off := 55) (tgt := 61) hx hb dX11_paceOf_6 (by rw [c_7]; decide) (by rw [c_7]; decide) (by rw [c_7]; rfl) (by decide) ?_
    refine lv_aload_n hx hb dX11_paceOf_61 rfl (lv_at hl 0 rfl) ?_
    refine lv_iload_n hx hb dX11_paceOf_62 rfl (lv_at hl 1 rfl) ?_
    refine mcV hf hk hst hw (c_X11_doesSee l g oh os ok ol ord odd otp olt orw oso osz oit oho ohe otr stp laws z cnt fogs arms kinds faiths places moved isk tpd oat obg otk ovl rmn tcd own_ opt k (by omega) (by omega)) (cwV 1 hts gX11_paceOf_X11_doesSee rfl rfl rfl hdV_X11_doesSee ⟨Nat.le_of_ble_eq_true rfl, Nat.le_of_ble_eq_true rfl⟩) [0, 1] rfl rfl 0 rfl rfl rfl hl.1 rfl (Nat.le_of_ble_eq_true rfl) dX11_paceOf_63 ⟨Nat.zero_le _, Nat.zero_le _⟩ (W' := [cob oh 11 [.ref os, .ref ok, .ref ol, .ref ord, .int isk, .ref odd, .ref otp, .int (nI tpd), .ref olt, .int oat, .int obg, .int otk, .int ovl, .ref orw, .int (nI rmn), .ref oso, .ref osz, .ref oit, .ref oho, .ref ohe, .ref otr, .int (nI tcd), .int own_, .int opt], cin g os 51 (mR stp laws z cnt fogs arms kinds faiths places moved)]) rfl (fun H locs hw => ?_)
    refine lv_if_eq (tgt := 73) hx hb dX11_paceOf_66 (by decide) (fun c_8 => ?_) (fun c_8 => ?_)
    · refine lv_iconst (v := 1) hx hb dX11_paceOf_73 (by decide) ?_
      exact re_i hf hr hlk hw (by unfold paceF; simp only [if_pos c_8]; rw [c_7]; rfl) (rfl) dX11_paceOf_74
    · refine lv_iconst (v := 2) hx hb dX11_paceOf_69 (by decide) ?_
      refine lv_goto (tgt := 74) hx hb dX11_paceOf_70 (by decide) ?_
      exact re_i hf hr hlk hw (by unfold paceF; simp only [if_neg c_8]; rw [c_7]; rfl) (rfl) dX11_paceOf_74
  refine lv_tableOut (tgt := 75) hx hb dX11_paceOf_6 (sw_o2 1 5 [1, 2, 3, 4, 5] (by decide) (by decide) (by simp only [List.mem_cons, List.not_mem_nil, or_false, not_or]; exact ⟨c_2, c_3, c_4, c_5, c_7⟩)) (by decide) ?_
  refine lv_iconst (v := 1) hx hb dX11_paceOf_75 (by decide) ?_
  exact re_i hf hr hlk hw (by unfold paceF; rw [if_neg c_2, if_neg c_4, if_neg c_5, if_neg c_7]) (rfl) dX11_paceOf_76
theorem hdV_X11_paceOf : yX11_paceOf.cls = RX11 ∧ yX11_paceOf.cls ≠ "java/lang/invoke/MethodHandle" ∧ yX11_paceOf.cls ≠ "java/lang/invoke/VarHandle" ∧ (parseMethodDescriptor yX11_paceOf.desc).map (fun d => d.parameters.length) = some 1 := by decide +kernel
theorem hdV_X11_fearsOf : yX11_fearsOf.cls = RX11 ∧ yX11_fearsOf.cls ≠ "java/lang/invoke/MethodHandle" ∧ yX11_fearsOf.cls ≠ "java/lang/invoke/VarHandle" ∧ (parseMethodDescriptor yX11_fearsOf.desc).map (fun d => d.parameters.length) = some 1 := by decide +kernel
theorem hdS_X11_held : yX11_held.cls ≠ "java/lang/invoke/MethodHandle" ∧ yX11_held.cls ≠ "java/lang/invoke/VarHandle" ∧ (parseMethodDescriptor yX11_held.desc).map (fun d => d.parameters.length) = some 2 := by decide +kernel
theorem hdV_X11_puts : yX11_puts.cls = RX11 ∧ yX11_puts.cls ≠ "java/lang/invoke/MethodHandle" ∧ yX11_puts.cls ≠ "java/lang/invoke/VarHandle" ∧ (parseMethodDescriptor yX11_puts.desc).map (fun d => d.parameters.length) = some 3 := by decide +kernel
theorem hdV_X11_keenOf : yX11_keenOf.cls = RX11 ∧ yX11_keenOf.cls ≠ "java/lang/invoke/MethodHandle" ∧ yX11_keenOf.cls ≠ "java/lang/invoke/VarHandle" ∧ (parseMethodDescriptor yX11_keenOf.desc).map (fun d => d.parameters.length) = some 1 := by decide +kernel
abbrev rmX11_goesOn : Room := { frames := 4, cells := 0, slots := 0, locals := 86 }
set_option maxHeartbeats 4000000 in
set_option maxRecDepth 100000 in
theorem c_X11_goesOn (l : Launch) (g : GG) (oh : Nat) (os : Nat) (ok : Nat) (ol : Nat) (ord : Nat) (odd : Nat) (otp : Nat) (olt : Nat) (orw : Nat) (oso : Nat) (osz : Nat) (oit : Nat) (oho : Nat) (ohe : Nat) (otr : Nat) (stp : Nat) (laws : Nat → Int32) (z : Int32) (cnt : Nat) (fogs : Nat → Int32) (arms : Nat → Int32) (kinds : Nat → Int32) (faiths : Nat → Int32) (places : Nat → Int32) (moved : Nat → Int32) (isk : Int32) (tpd : Nat) (oat : Int32) (obg : Int32) (otk : Int32) (ovl : Int32) (rmn : Nat) (tcd : Nat) (own_ : Int32) (opt : Int32) (dd : Nat → Int32) (k : Nat) (hk8 : k < 8) (hsp : stp < 2 ^ 30) (hpl : plOk (places k)) (hmo_ : moOk (moved k)) : mt l g yX11_goesOn wsX11_goesOn rmX11_goesOn [.ref oh, .int (nI k)] [cob oh 11 [.ref os, .ref ok, .ref ol, .ref ord, .int isk, .ref odd, .ref otp, .int (nI tpd), .ref olt, .int oat, .int obg, .int otk, .int ovl, .ref orw, .int (nI rmn), .ref oso, .ref osz, .ref oit, .ref oho, .ref ohe, .ref otr, .int (nI tcd), .int own_, .int opt], cin g os 51 (mR stp laws z cnt fogs arms kinds faiths places moved), cin g odd 8 dd] none [cob oh 11 [.ref os, .ref ok, .ref ol, .ref ord, .int isk, .ref odd, .ref otp, .int (nI tpd), .ref olt, .int oat, .int obg, .int otk, .int ovl, .ref orw, .int (nI rmn), .ref oso, .ref osz, .ref oit, .ref oho, .ref ohe, .ref otr, .int (nI tcd), .int own_, .int opt], cin g os 51 (mR stp laws z cnt fogs arms kinds (upd faiths k (vF (kinds k) (fogs (stp % 6)) (arms (stp % 6)) (laws 0) (faiths k) (places k))) (upd places k (vP (kinds k) (nI stp) (seesF (kinds k) (fogs (stp % 6)) (arms (stp % 6)) (laws 0) (places k)) (laws 1) (laws 2) (vF (kinds k) (fogs (stp % 6)) (arms (stp % 6)) (laws 0) (faiths k) (places k)) (places k))) (upd moved k (vM (kinds k) (fogs (stp % 6)) (arms (stp % 6)) (laws 0) (places k) (moved k)))), cin g odd 8 (upd dd k (dM (laws 1) (laws 2) (vF (kinds k) (fogs (stp % 6)) (arms (stp % 6)) (laws 0) (faiths k) (places k))))] := by
  refine mt.of (cc := cX11_goesOn) (nL := 6) (ret := none) (own := RX11) (by decide +kernel) rfl rfl (show ([oh, os, odd] : List Nat) = [oh, os, odd] from rfl) (Nat.le_of_ble_eq_true rfl) (fun p e s m below meth c hf hr hlk _ hk hst hw ls hl => ?_)
  have hx := hf.1
  have hb := hf.2.1
  have hts := hf.2.2.2.2
  have hl : lv_has ls 6 [(0, .ref oh), (1, .int (nI k))] := hl
  have hinX11 : ∀ w ∈ u_ws RX11 TX11 24, w ∈ wsX11_goesOn := fun w h => List.mem_cons_of_mem _ (List.mem_append_right _ h)
  have w_0 : Cond.fieldLink RX11 22 "LightManModel" "did" "[I" ∈ wsX11_goesOn := List.mem_of_getElem? (i := 1) rfl
  have w_1 : Cond.fieldLink RX11 9 "LightManModel" "s" "[I" ∈ wsX11_goesOn := List.mem_of_getElem? (i := 2) rfl
  refine lv_aload_n hx hb dX11_goesOn_0 rfl (lv_at hl 0 rfl) ?_
  refine lv_iload_n hx hb dX11_goesOn_1 rfl (lv_at hl 1 rfl) ?_
  refine mcV hf hk hst hw (c_X11_paceOf l g oh os ok ol ord odd otp olt orw oso osz oit oho ohe otr stp laws z cnt fogs arms kinds faiths places moved isk tpd oat obg otk ovl rmn tcd own_ opt k (by omega) (by omega)) (cwV 1 hts gX11_goesOn_X11_paceOf rfl rfl rfl hdV_X11_paceOf ⟨Nat.le_of_ble_eq_true rfl, Nat.le_of_ble_eq_true rfl⟩) [0, 1] rfl rfl 0 rfl rfl rfl hl.1 rfl (Nat.le_of_ble_eq_true rfl) dX11_goesOn_2 ⟨Nat.zero_le _, Nat.zero_le _⟩ (W' := [cob oh 11 [.ref os, .ref ok, .ref ol, .ref ord, .int isk, .ref odd, .ref otp, .int (nI tpd), .ref olt, .int oat, .int obg, .int otk, .int ovl, .ref orw, .int (nI rmn), .ref oso, .ref osz, .ref oit, .ref oho, .ref ohe, .ref otr, .int (nI tcd), .int own_, .int opt], cin g os 51 (mR stp laws z cnt fogs arms kinds faiths places moved), cin g odd 8 dd]) rfl (fun H locs hw => ?_)
  refine lv_istore_n (lv' := [(2, .int (paceF (kinds k) (nI stp) (seesF (kinds k) (fogs (stp % 6)) (arms (stp % 6)) (laws 0) (places k)))), (0, .ref oh), (1, .int (nI k))]) hx hb dX11_goesOn_5 rfl hl (by decide) rfl (fun ls hl => ?_)
  refine lv_aload_n hx hb dX11_goesOn_6 rfl (lv_at hl 1 rfl) ?_
  refine lv_iload_n hx hb dX11_goesOn_7 rfl (lv_at hl 2 rfl) ?_
  refine mcV hf hk hst hw (c_X11_doesSee l g oh os ok ol ord odd otp olt orw oso osz oit oho ohe otr stp laws z cnt fogs arms kinds faiths places moved isk tpd oat obg otk ovl rmn tcd own_ opt k (by omega) (by omega)) (cwV 1 hts gX11_goesOn_X11_doesSee rfl rfl rfl hdV_X11_doesSee ⟨Nat.le_of_ble_eq_true rfl, Nat.le_of_ble_eq_true rfl⟩) [0, 1] rfl rfl 0 rfl rfl rfl hl.1 rfl (Nat.le_of_ble_eq_true rfl) dX11_goesOn_8 ⟨Nat.zero_le _, Nat.zero_le _⟩ (W' := [cob oh 11 [.ref os, .ref ok, .ref ol, .ref ord, .int isk, .ref odd, .ref otp, .int (nI tpd), .ref olt, .int oat, .int obg, .int otk, .int ovl, .ref orw, .int (nI rmn), .ref oso, .ref osz, .ref oit, .ref oho, .ref ohe, .ref otr, .int (nI tcd), .int own_, .int opt], cin g os 51 (mR stp laws z cnt fogs arms kinds faiths places moved), cin g odd 8 dd]) rfl (fun H locs hw => ?_)
  refine lv_istore_n (lv' := [(3, .int (seesF (kinds k) (fogs (stp % 6)) (arms (stp % 6)) (laws 0) (places k))), (2, .int (paceF (kinds k) (nI stp) (seesF (kinds k) (fogs (stp % 6)) (arms (stp % 6)) (laws 0) (places k)))), (0, .ref oh), (1, .int (nI k))]) hx hb dX11_goesOn_11 rfl hl (by decide) rfl (fun ls hl => ?_)
  refine lv_iload_n hx hb dX11_goesOn_12 rfl (lv_at hl 0 rfl) ?_
  refine lv_if_eq (tgt := 31) hx hb dX11_goesOn_13 (by decide) (fun c_1 => ?_) (fun c_1 => ?_)
  · refine lv_aload_n hx hb dX11_goesOn_31 rfl (lv_at hl 2 rfl) ?_
    refine lv_iload_n hx hb dX11_goesOn_32 rfl (lv_at hl 3 rfl) ?_
    refine lv_iconst (v := 1) hx hb dX11_goesOn_33 (by decide) ?_
    refine mcV hf hk hst hw (c_X11_get1 l g oh os ok ol ord odd otp olt orw oso osz oit oho ohe otr stp laws z cnt fogs arms kinds faiths places moved isk tpd oat obg otk ovl rmn tcd own_ opt k (by omega)) (cwV 2 hts gX11_goesOn_X11_get rfl rfl rfl hdV_X11_get ⟨Nat.le_of_ble_eq_true rfl, Nat.le_of_ble_eq_true rfl⟩) [0, 1] rfl rfl 0 rfl rfl rfl hl.1 rfl (Nat.le_of_ble_eq_true rfl) dX11_goesOn_34 ⟨Nat.zero_le _, Nat.zero_le _⟩ (W' := [cob oh 11 [.ref os, .ref ok, .ref ol, .ref ord, .int isk, .ref odd, .ref otp, .int (nI tpd), .ref olt, .int oat, .int obg, .int otk, .int ovl, .ref orw, .int (nI rmn), .ref oso, .ref osz, .ref oit, .ref oho, .ref ohe, .ref otr, .int (nI tcd), .int own_, .int opt], cin g os 51 (mR stp laws z cnt fogs arms kinds faiths places moved), cin g odd 8 dd]) rfl (fun H locs hw => ?_)
    refine lv_aload_n hx hb dX11_goesOn_37 rfl (lv_at hl 2 rfl) ?_
    refine lv_iload_n hx hb dX11_goesOn_38 rfl (lv_at hl 3 rfl) ?_
    refine mcV hf hk hst hw (c_X11_fearsOf l g oh os ok ol ord odd otp olt orw oso osz oit oho ohe otr stp laws z cnt fogs arms kinds faiths places moved isk tpd oat obg otk ovl rmn tcd own_ opt k (by omega) (by omega)) (cwV 1 hts gX11_goesOn_X11_fearsOf rfl rfl rfl hdV_X11_fearsOf ⟨Nat.le_of_ble_eq_true rfl, Nat.le_of_ble_eq_true rfl⟩) [0, 1] rfl rfl 0 rfl rfl rfl hl.1 rfl (Nat.le_of_ble_eq_true rfl) dX11_goesOn_39 ⟨Nat.zero_le _, Nat.zero_le _⟩ (W' := [cob oh 11 [.ref os, .ref ok, .ref ol, .ref ord, .int isk, .ref odd, .ref otp, .int (nI tpd), .ref olt, .int oat, .int obg, .int otk, .int ovl, .ref orw, .int (nI rmn), .ref oso, .ref osz, .ref oit, .ref oho, .ref ohe, .ref otr, .int (nI tcd), .int own_, .int opt], cin g os 51 (mR stp laws z cnt fogs arms kinds faiths places moved), cin g odd 8 dd]) rfl (fun H locs hw => ?_)
    refine lv_isub hx hb dX11_goesOn_42 ?_
    refine lv_bipush (v := 99) hx hb dX11_goesOn_43 (by decide) ?_
    refine mcS hf hk hst hw (c_X11_held l g ((faiths k) - (fearsF (kinds k) (fogs (stp % 6)))) 99) (va_cwS 2 hts gX11_goesOn_X11_held rfl rfl rfl hdS_X11_held ⟨Nat.le_of_ble_eq_true rfl, Nat.le_of_ble_eq_true rfl⟩) [] rfl rfl rfl hl.1 rfl (Nat.le_of_ble_eq_true rfl) dX11_goesOn_45 ⟨Nat.zero_le _, Nat.zero_le _⟩ (W' := [cob oh 11 [.ref os, .ref ok, .ref ol, .ref ord, .int isk, .ref odd, .ref otp, .int (nI tpd), .ref olt, .int oat, .int obg, .int otk, .int ovl, .ref orw, .int (nI rmn), .ref oso, .ref osz, .ref oit, .ref oho, .ref ohe, .ref otr, .int (nI tcd), .int own_, .int opt], cin g os 51 (mR stp laws z cnt fogs arms kinds faiths places moved), cin g odd 8 dd]) rfl (fun H locs hw => ?_)
    refine lv_tope (y := hF ((faiths k) - (fearsF (kinds k) (fogs (stp % 6))))) (hd_hF _) ?_
    refine lv_istore (lv' := [(4, .int (hF ((faiths k) - (fearsF (kinds k) (fogs (stp % 6)))))), (3, .int (seesF (kinds k) (fogs (stp % 6)) (arms (stp % 6)) (laws 0) (places k))), (2, .int (paceF (kinds k) (nI stp) (seesF (kinds k) (fogs (stp % 6)) (arms (stp % 6)) (laws 0) (places k)))), (0, .ref oh), (1, .int (nI k))]) hx hb dX11_goesOn_48 hl (by decide) rfl (fun ls hl => ?_)
    refine lv_aload_n hx hb dX11_goesOn_50 rfl (lv_at hl 3 rfl) ?_
    refine lv_iload_n hx hb dX11_goesOn_51 rfl (lv_at hl 4 rfl) ?_
    refine lv_iconst (v := 1) hx hb dX11_goesOn_52 (by decide) ?_
    refine lv_iload hx hb dX11_goesOn_53 (lv_at hl 0 rfl) ?_
    refine mcV hf hk hst hw (c_X11_puts1 l g oh os ok ol ord odd otp olt orw oso osz oit oho ohe otr stp laws z cnt fogs arms kinds faiths places moved isk tpd oat obg otk ovl rmn tcd own_ opt k (hF ((faiths k) - (fearsF (kinds k) (fogs (stp % 6))))) (by omega)) (cwV 3 hts gX11_goesOn_X11_puts rfl rfl rfl hdV_X11_puts ⟨Nat.le_of_ble_eq_true rfl, Nat.le_of_ble_eq_true rfl⟩) [0, 1] rfl rfl 0 rfl rfl rfl hl.1 rfl (Nat.le_of_ble_eq_true rfl) dX11_goesOn_55 ⟨Nat.zero_le _, Nat.zero_le _⟩ (W' := [cob oh 11 [.ref os, .ref ok, .ref ol, .ref ord, .int isk, .ref odd, .ref otp, .int (nI tpd), .ref olt, .int oat, .int obg, .int otk, .int ovl, .ref orw, .int (nI rmn), .ref oso, .ref osz, .ref oit, .ref oho, .ref ohe, .ref otr, .int (nI tcd), .int own_, .int opt], cin g os 51 (mR stp laws z cnt fogs arms kinds (upd faiths k (hF ((faiths k) - (fearsF (kinds k) (fogs (stp % 6)))))) places moved), cin g odd 8 dd]) rfl (fun H locs hw => ?_)
    refine lv_aload_n hx hb dX11_goesOn_58 rfl (lv_at hl 3 rfl) ?_
    refine lv_iload_n hx hb dX11_goesOn_59 rfl (lv_at hl 4 rfl) ?_
    refine lv_iconst (v := 3) hx hb dX11_goesOn_60 (by decide) ?_
    refine lv_aload_n hx hb dX11_goesOn_61 rfl (lv_at hl 3 rfl) ?_
    refine lv_iload_n hx hb dX11_goesOn_62 rfl (lv_at hl 4 rfl) ?_
    refine lv_iconst (v := 3) hx hb dX11_goesOn_63 (by decide) ?_
    refine mcV hf hk hst hw (c_X11_get3 l g oh os ok ol ord odd otp olt orw oso osz oit oho ohe otr stp laws z cnt fogs arms kinds (upd faiths k (hF ((faiths k) - (fearsF (kinds k) (fogs (stp % 6)))))) places moved isk tpd oat obg otk ovl rmn tcd own_ opt k (by omega)) (cwV 2 hts gX11_goesOn_X11_get rfl rfl rfl hdV_X11_get ⟨Nat.le_of_ble_eq_true rfl, Nat.le_of_ble_eq_true rfl⟩) [0, 1] rfl rfl 0 rfl rfl rfl hl.1 rfl (Nat.le_of_ble_eq_true rfl) dX11_goesOn_64 ⟨Nat.zero_le _, Nat.zero_le _⟩ (W' := [cob oh 11 [.ref os, .ref ok, .ref ol, .ref ord, .int isk, .ref odd, .ref otp, .int (nI tpd), .ref olt, .int oat, .int obg, .int otk, .int ovl, .ref orw, .int (nI rmn), .ref oso, .ref osz, .ref oit, .ref oho, .ref ohe, .ref otr, .int (nI tcd), .int own_, .int opt], cin g os 51 (mR stp laws z cnt fogs arms kinds (upd faiths k (hF ((faiths k) - (fearsF (kinds k) (fogs (stp % 6)))))) places moved), cin g odd 8 dd]) rfl (fun H locs hw => ?_)
    refine lv_iload_n hx hb dX11_goesOn_67 rfl (lv_at hl 1 rfl) ?_
    refine lv_if_eq (tgt := 75) hx hb dX11_goesOn_68 (by decide) (fun _ => ?_) (fun q => absurd (c_1) q)
    refine lv_iconst (v := 0) hx hb dX11_goesOn_75 (by decide) ?_
    refine lv_iadd hx hb dX11_goesOn_76 ?_
    refine lv_sipush (v := 9999) hx hb dX11_goesOn_77 (by decide) ?_
    refine mcS hf hk hst hw (c_X11_held l g ((moved k) + 0) 9999) (va_cwS 2 hts gX11_goesOn_X11_held rfl rfl rfl hdS_X11_held ⟨Nat.le_of_ble_eq_true rfl, Nat.le_of_ble_eq_true rfl⟩) [] rfl rfl rfl hl.1 rfl (Nat.le_of_ble_eq_true rfl) dX11_goesOn_80 ⟨Nat.zero_le _, Nat.zero_le _⟩ (W' := [cob oh 11 [.ref os, .ref ok, .ref ol, .ref ord, .int isk, .ref odd, .ref otp, .int (nI tpd), .ref olt, .int oat, .int obg, .int otk, .int ovl, .ref orw, .int (nI rmn), .ref oso, .ref osz, .ref oit, .ref oho, .ref ohe, .ref otr, .int (nI tcd), .int own_, .int opt], cin g os 51 (mR stp laws z cnt fogs arms kinds (upd faiths k (hF ((faiths k) - (fearsF (kinds k) (fogs (stp % 6)))))) places moved), cin g odd 8 dd]) rfl (fun H locs hw => ?_)
    refine lv_tope (y := moved k) (hd_mo0 hmo_) ?_
    refine mcV hf hk hst hw (c_X11_puts3 l g oh os ok ol ord odd otp olt orw oso osz oit oho ohe otr stp laws z cnt fogs arms kinds (upd faiths k (hF ((faiths k) - (fearsF (kinds k) (fogs (stp % 6)))))) places moved isk tpd oat obg otk ovl rmn tcd own_ opt k (moved k) (by omega)) (cwV 3 hts gX11_goesOn_X11_puts rfl rfl rfl hdV_X11_puts ⟨Nat.le_of_ble_eq_true rfl, Nat.le_of_ble_eq_true rfl⟩) [0, 1] rfl rfl 0 rfl rfl rfl hl.1 rfl (Nat.le_of_ble_eq_true rfl) dX11_goesOn_83 ⟨Nat.zero_le _, Nat.zero_le _⟩ (W' := [cob oh 11 [.ref os, .ref ok, .ref ol, .ref ord, .int isk, .ref odd, .ref otp, .int (nI tpd), .ref olt, .int oat, .int obg, .int otk, .int ovl, .ref orw, .int (nI rmn), .ref oso, .ref osz, .ref oit, .ref oho, .ref ohe, .ref otr, .int (nI tcd), .int own_, .int opt], cin g os 51 (mR stp laws z cnt fogs arms kinds (upd faiths k (hF ((faiths k) - (fearsF (kinds k) (fogs (stp % 6)))))) places (upd moved k (moved k))), cin g odd 8 dd]) rfl (fun H locs hw => ?_)
    refine lv_aload_n hx hb dX11_goesOn_86 rfl (lv_at hl 3 rfl) ?_
    refine rg hf hk hw hinX11 0 rfl rfl 5 (by decide) w_0 rfl dX11_goesOn_87 ?_
    refine lv_iload_n hx hb dX11_goesOn_90 rfl (lv_at hl 4 rfl) ?_
    refine lv_iload hx hb dX11_goesOn_91 (lv_at hl 0 rfl) ?_
    refine lv_aload_n hx hb dX11_goesOn_93 rfl (lv_at hl 3 rfl) ?_
    refine rg hf hk hw hinX11 0 rfl rfl 0 (by decide) w_1 rfl dX11_goesOn_94 ?_
    refine lv_iconst (v := 2) hx hb dX11_goesOn_97 (by decide) ?_
    refine rij hf hk hw 1 rfl (j := 2) (vp_in_nI (n := 2) (by omega) (by omega)) (rfl) dX11_goesOn_98 ?_
    refine lv_tope (y := laws 1) (rfl) ?_
    refine lv_icmp_ge (tgt := 106) hx hb dX11_goesOn_99 (by decide) (fun c_2 => ?_) (fun c_2 => ?_)
    · refine lv_iload hx hb dX11_goesOn_106 (lv_at hl 0 rfl) ?_
      refine lv_aload_n hx hb dX11_goesOn_108 rfl (lv_at hl 3 rfl) ?_
      refine rg hf hk hw hinX11 0 rfl rfl 0 (by decide) w_1 rfl dX11_goesOn_109 ?_
      refine lv_iconst (v := 3) hx hb dX11_goesOn_112 (by decide) ?_
      refine rij hf hk hw 1 rfl (j := 3) (vp_in_nI (n := 3) (by omega) (by omega)) (rfl) dX11_goesOn_113 ?_
      refine lv_tope (y := laws 2) (rfl) ?_
      refine lv_icmp_le (tgt := 121) hx hb dX11_goesOn_114 (by decide) (fun c_3 => ?_) (fun c_3 => ?_)
      · refine lv_iconst (v := 0) hx hb dX11_goesOn_121 (by decide) ?_
        refine rsj hf hk hw 2 rfl (j := k) (vp_in_nI (by omega) (by omega)) (nI_clamp (by omega)) dX11_goesOn_122 (W' := [cob oh 11 [.ref os, .ref ok, .ref ol, .ref ord, .int isk, .ref odd, .ref otp, .int (nI tpd), .ref olt, .int oat, .int obg, .int otk, .int ovl, .ref orw, .int (nI rmn), .ref oso, .ref osz, .ref oit, .ref oho, .ref ohe, .ref otr, .int (nI tcd), .int own_, .int opt], cin g os 51 (mR stp laws z cnt fogs arms kinds (upd faiths k (hF ((faiths k) - (fearsF (kinds k) (fogs (stp % 6)))))) places (upd moved k (moved k))), cin g odd 8 (upd dd k 0)]) rfl (fun H locs hw => ?_)
        refine lv_aload_n hx hb dX11_goesOn_123 rfl (lv_at hl 3 rfl) ?_
        refine lv_iload_n hx hb dX11_goesOn_124 rfl (lv_at hl 4 rfl) ?_
        refine lv_iconst (v := 2) hx hb dX11_goesOn_125 (by decide) ?_
        refine mcV hf hk hst hw (c_X11_get2 l g oh os ok ol ord odd otp olt orw oso osz oit oho ohe otr stp laws z cnt fogs arms kinds (upd faiths k (hF ((faiths k) - (fearsF (kinds k) (fogs (stp % 6)))))) places (upd moved k (moved k)) isk tpd oat obg otk ovl rmn tcd own_ opt k (by omega)) (cwV 2 hts gX11_goesOn_X11_get rfl rfl rfl hdV_X11_get ⟨Nat.le_of_ble_eq_true rfl, Nat.le_of_ble_eq_true rfl⟩) [0, 1] rfl rfl 0 rfl rfl rfl hl.1 rfl (Nat.le_of_ble_eq_true rfl) dX11_goesOn_126 ⟨Nat.zero_le _, Nat.zero_le _⟩ (W' := [cob oh 11 [.ref os, .ref ok, .ref ol, .ref ord, .int isk, .ref odd, .ref otp, .int (nI tpd), .ref olt, .int oat, .int obg, .int otk, .int ovl, .ref orw, .int (nI rmn), .ref oso, .ref osz, .ref oit, .ref oho, .ref ohe, .ref otr, .int (nI tcd), .int own_, .int opt], cin g os 51 (mR stp laws z cnt fogs arms kinds (upd faiths k (hF ((faiths k) - (fearsF (kinds k) (fogs (stp % 6)))))) places (upd moved k (moved k))), cin g odd 8 (upd dd k 0)]) rfl (fun H locs hw => ?_)
        refine lv_aload_n hx hb dX11_goesOn_129 rfl (lv_at hl 3 rfl) ?_
        refine rg hf hk hw hinX11 0 rfl rfl 5 (by decide) w_0 rfl dX11_goesOn_130 ?_
        refine lv_iload_n hx hb dX11_goesOn_133 rfl (lv_at hl 4 rfl) ?_
        refine rij hf hk hw 2 rfl (j := k) (vp_in_nI (by omega) (by omega)) (nI_clamp (by omega)) dX11_goesOn_134 ?_
        refine lv_tope (y := 0) pk_us ?_
        refine lv_iconst (v := 2) hx hb dX11_goesOn_135 (by decide) ?_
        refine lv_icmp_ne (tgt := 143) hx hb dX11_goesOn_136 (by decide) (fun _ => ?_) (fun q => absurd q (by decide))
        refine lv_aload_n hx hb dX11_goesOn_143 rfl (lv_at hl 3 rfl) ?_
        refine rg hf hk hw hinX11 0 rfl rfl 5 (by decide) w_0 rfl dX11_goesOn_144 ?_
        refine lv_iload_n hx hb dX11_goesOn_147 rfl (lv_at hl 4 rfl) ?_
        refine rij hf hk hw 2 rfl (j := k) (vp_in_nI (by omega) (by omega)) (nI_clamp (by omega)) dX11_goesOn_148 ?_
        refine lv_tope (y := 0) pk_us ?_
        refine lv_iconst (v := 1) hx hb dX11_goesOn_149 (by decide) ?_
        refine lv_icmp_ne (tgt := 157) hx hb dX11_goesOn_150 (by decide) (fun _ => ?_) (fun q => absurd q (by decide))
        refine lv_iload_n hx hb dX11_goesOn_157 rfl (lv_at hl 2 rfl) ?_
        refine lv_iadd hx hb dX11_goesOn_158 ?_
        refine lv_istore (lv' := [(5, .int ((places k) + (paceF (kinds k) (nI stp) (seesF (kinds k) (fogs (stp % 6)) (arms (stp % 6)) (laws 0) (places k))))), (4, .int (hF ((faiths k) - (fearsF (kinds k) (fogs (stp % 6)))))), (3, .int (seesF (kinds k) (fogs (stp % 6)) (arms (stp % 6)) (laws 0) (places k))), (2, .int (paceF (kinds k) (nI stp) (seesF (kinds k) (fogs (stp % 6)) (arms (stp % 6)) (laws 0) (places k)))), (0, .ref oh), (1, .int (nI k))]) hx hb dX11_goesOn_159 hl (by decide) rfl (fun ls hl => ?_)
        refine lv_aload_n hx hb dX11_goesOn_161 rfl (lv_at hl 4 rfl) ?_
        refine lv_iload_n hx hb dX11_goesOn_162 rfl (lv_at hl 5 rfl) ?_
        refine lv_iconst (v := 2) hx hb dX11_goesOn_163 (by decide) ?_
        refine lv_iload hx hb dX11_goesOn_164 (lv_at hl 0 rfl) ?_
        refine lv_bipush (v := 12) hx hb dX11_goesOn_166 (by decide) ?_
        refine mcS hf hk hst hw (c_X11_held l g ((places k) + (paceF (kinds k) (nI stp) (seesF (kinds k) (fogs (stp % 6)) (arms (stp % 6)) (laws 0) (places k)))) 12) (va_cwS 2 hts gX11_goesOn_X11_held rfl rfl rfl hdS_X11_held ⟨Nat.le_of_ble_eq_true rfl, Nat.le_of_ble_eq_true rfl⟩) [] rfl rfl rfl hl.1 rfl (Nat.le_of_ble_eq_true rfl) dX11_goesOn_168 ⟨Nat.zero_le _, Nat.zero_le _⟩ (W' := [cob oh 11 [.ref os, .ref ok, .ref ol, .ref ord, .int isk, .ref odd, .ref otp, .int (nI tpd), .ref olt, .int oat, .int obg, .int otk, .int ovl, .ref orw, .int (nI rmn), .ref oso, .ref osz, .ref oit, .ref oho, .ref ohe, .ref otr, .int (nI tcd), .int own_, .int opt], cin g os 51 (mR stp laws z cnt fogs arms kinds (upd faiths k (hF ((faiths k) - (fearsF (kinds k) (fogs (stp % 6)))))) places (upd moved k (moved k))), cin g odd 8 (upd dd k 0)]) rfl (fun H locs hw => ?_)
        refine lv_tope (y := mmin32 12 ((places k) + (paceF (kinds k) (nI stp) (seesF (kinds k) (fogs (stp % 6)) (arms (stp % 6)) (laws 0) (places k))))) (hd_plp hpl (paceF_ok _ _ _)) ?_
        refine mcV hf hk hst hw (c_X11_puts2 l g oh os ok ol ord odd otp olt orw oso osz oit oho ohe otr stp laws z cnt fogs arms kinds (upd faiths k (hF ((faiths k) - (fearsF (kinds k) (fogs (stp % 6)))))) places (upd moved k (moved k)) isk tpd oat obg otk ovl rmn tcd own_ opt k (mmin32 12 ((places k) + (paceF (kinds k) (nI stp) (seesF (kinds k) (fogs (stp % 6)) (arms (stp % 6)) (laws 0) (places k))))) (by omega)) (cwV 3 hts gX11_goesOn_X11_puts rfl rfl rfl hdV_X11_puts ⟨Nat.le_of_ble_eq_true rfl, Nat.le_of_ble_eq_true rfl⟩) [0, 1] rfl rfl 0 rfl rfl rfl hl.1 rfl (Nat.le_of_ble_eq_true rfl) dX11_goesOn_171 ⟨Nat.zero_le _, Nat.zero_le _⟩ (W' := [cob oh 11 [.ref os, .ref ok, .ref ol, .ref ord, .int isk, .ref odd, .ref otp, .int (nI tpd), .ref olt, .int oat, .int obg, .int otk, .int ovl, .ref orw, .int (nI rmn), .ref oso, .ref osz, .ref oit, .ref oho, .ref ohe, .ref otr, .int (nI tcd), .int own_, .int opt], cin g os 51 (mR stp laws z cnt fogs arms kinds (upd faiths k (hF ((faiths k) - (fearsF (kinds k) (fogs (stp % 6)))))) (upd places k (mmin32 12 ((places k) + (paceF (kinds k) (nI stp) (seesF (kinds k) (fogs (stp % 6)) (arms (stp % 6)) (laws 0) (places k)))))) (upd moved k (moved k))), cin g odd 8 (upd dd k 0)]) rfl (fun H locs hw => ?_)
        have hfa : vF (kinds k) (fogs (stp % 6)) (arms (stp % 6)) (laws 0) (faiths k) (places k) = hF ((faiths k) - (fearsF (kinds k) (fogs (stp % 6)))) := by unfold vF; rw [if_pos c_1]
        have hmo : vM (kinds k) (fogs (stp % 6)) (arms (stp % 6)) (laws 0) (places k) (moved k) = moved k := by unfold vM; rw [if_pos c_1]
        have hpp : vP (kinds k) (nI stp) (seesF (kinds k) (fogs (stp % 6)) (arms (stp % 6)) (laws 0) (places k)) (laws 1) (laws 2) (vF (kinds k) (fogs (stp % 6)) (arms (stp % 6)) (laws 0) (faiths k) (places k)) (places k) = mmin32 12 ((places k) + (paceF (kinds k) (nI stp) (seesF (kinds k) (fogs (stp % 6)) (arms (stp % 6)) (laws 0) (places k)))) := by unfold vP; rw [hfa, if_pos c_2, if_pos c_3]
        have hdd : dM (laws 1) (laws 2) (vF (kinds k) (fogs (stp % 6)) (arms (stp % 6)) (laws 0) (faiths k) (places k)) = 0 := by unfold dM; rw [hfa, if_pos c_2, if_pos c_3]
        exact re_v hf hr hlk hw (by rw [hpp, hmo, hdd, hfa]) dX11_goesOn_174
      · refine lv_iconst (v := 1) hx hb dX11_goesOn_117 (by decide) ?_
        refine lv_goto (tgt := 122) hx hb dX11_goesOn_118 (by decide) ?_
        refine rsj hf hk hw 2 rfl (j := k) (vp_in_nI (by omega) (by omega)) (nI_clamp (by omega)) dX11_goesOn_122 (W' := [cob oh 11 [.ref os, .ref ok, .ref ol, .ref ord, .int isk, .ref odd, .ref otp, .int (nI tpd), .ref olt, .int oat, .int obg, .int otk, .int ovl, .ref orw, .int (nI rmn), .ref oso, .ref osz, .ref oit, .ref oho, .ref ohe, .ref otr, .int (nI tcd), .int own_, .int opt], cin g os 51 (mR stp laws z cnt fogs arms kinds (upd faiths k (hF ((faiths k) - (fearsF (kinds k) (fogs (stp % 6)))))) places (upd moved k (moved k))), cin g odd 8 (upd dd k 1)]) rfl (fun H locs hw => ?_)
        refine lv_aload_n hx hb dX11_goesOn_123 rfl (lv_at hl 3 rfl) ?_
        refine lv_iload_n hx hb dX11_goesOn_124 rfl (lv_at hl 4 rfl) ?_
        refine lv_iconst (v := 2) hx hb dX11_goesOn_125 (by decide) ?_
        refine mcV hf hk hst hw (c_X11_get2 l g oh os ok ol ord odd otp olt orw oso osz oit oho ohe otr stp laws z cnt fogs arms kinds (upd faiths k (hF ((faiths k) - (fearsF (kinds k) (fogs (stp % 6)))))) places (upd moved k (moved k)) isk tpd oat obg otk ovl rmn tcd own_ opt k (by omega)) (cwV 2 hts gX11_goesOn_X11_get rfl rfl rfl hdV_X11_get ⟨Nat.le_of_ble_eq_true rfl, Nat.le_of_ble_eq_true rfl⟩) [0, 1] rfl rfl 0 rfl rfl rfl hl.1 rfl (Nat.le_of_ble_eq_true rfl) dX11_goesOn_126 ⟨Nat.zero_le _, Nat.zero_le _⟩ (W' := [cob oh 11 [.ref os, .ref ok, .ref ol, .ref ord, .int isk, .ref odd, .ref otp, .int (nI tpd), .ref olt, .int oat, .int obg, .int otk, .int ovl, .ref orw, .int (nI rmn), .ref oso, .ref osz, .ref oit, .ref oho, .ref ohe, .ref otr, .int (nI tcd), .int own_, .int opt], cin g os 51 (mR stp laws z cnt fogs arms kinds (upd faiths k (hF ((faiths k) - (fearsF (kinds k) (fogs (stp % 6)))))) places (upd moved k (moved k))), cin g odd 8 (upd dd k 1)]) rfl (fun H locs hw => ?_)
        refine lv_aload_n hx hb dX11_goesOn_129 rfl (lv_at hl 3 rfl) ?_
        refine rg hf hk hw hinX11 0 rfl rfl 5 (by decide) w_0 rfl dX11_goesOn_130 ?_
        refine lv_iload_n hx hb dX11_goesOn_133 rfl (lv_at hl 4 rfl) ?_
        refine rij hf hk hw 2 rfl (j := k) (vp_in_nI (by omega) (by omega)) (nI_clamp (by omega)) dX11_goesOn_134 ?_
        refine lv_tope (y := 1) pk_us ?_
        refine lv_iconst (v := 2) hx hb dX11_goesOn_135 (by decide) ?_
        refine lv_icmp_ne (tgt := 143) hx hb dX11_goesOn_136 (by decide) (fun _ => ?_) (fun q => absurd q (by decide))
        refine lv_aload_n hx hb dX11_goesOn_143 rfl (lv_at hl 3 rfl) ?_
        refine rg hf hk hw hinX11 0 rfl rfl 5 (by decide) w_0 rfl dX11_goesOn_144 ?_
        refine lv_iload_n hx hb dX11_goesOn_147 rfl (lv_at hl 4 rfl) ?_
        refine rij hf hk hw 2 rfl (j := k) (vp_in_nI (by omega) (by omega)) (nI_clamp (by omega)) dX11_goesOn_148 ?_
        refine lv_tope (y := 1) pk_us ?_
        refine lv_iconst (v := 1) hx hb dX11_goesOn_149 (by decide) ?_
        refine lv_icmp_ne (tgt := 157) hx hb dX11_goesOn_150 (by decide) (fun q => absurd (by decide) q) (fun _ => ?_)
        refine lv_iconst (v := 0) hx hb dX11_goesOn_153 (by decide) ?_
        refine lv_goto (tgt := 158) hx hb dX11_goesOn_154 (by decide) ?_
        refine lv_iadd hx hb dX11_goesOn_158 ?_
        refine lv_istore (lv' := [(5, .int ((places k) + 0)), (4, .int (hF ((faiths k) - (fearsF (kinds k) (fogs (stp % 6)))))), (3, .int (seesF (kinds k) (fogs (stp % 6)) (arms (stp % 6)) (laws 0) (places k))), (2, .int (paceF (kinds k) (nI stp) (seesF (kinds k) (fogs (stp % 6)) (arms (stp % 6)) (laws 0) (places k)))), (0, .ref oh), (1, .int (nI k))]) hx hb dX11_goesOn_159 hl (by decide) rfl (fun ls hl => ?_)
        refine lv_aload_n hx hb dX11_goesOn_161 rfl (lv_at hl 4 rfl) ?_
        refine lv_iload_n hx hb dX11_goesOn_162 rfl (lv_at hl 5 rfl) ?_
        refine lv_iconst (v := 2) hx hb dX11_goesOn_163 (by decide) ?_
        refine lv_iload hx hb dX11_goesOn_164 (lv_at hl 0 rfl) ?_
        refine lv_bipush (v := 12) hx hb dX11_goesOn_166 (by decide) ?_
        refine mcS hf hk hst hw (c_X11_held l g ((places k) + 0) 12) (va_cwS 2 hts gX11_goesOn_X11_held rfl rfl rfl hdS_X11_held ⟨Nat.le_of_ble_eq_true rfl, Nat.le_of_ble_eq_true rfl⟩) [] rfl rfl rfl hl.1 rfl (Nat.le_of_ble_eq_true rfl) dX11_goesOn_168 ⟨Nat.zero_le _, Nat.zero_le _⟩ (W' := [cob oh 11 [.ref os, .ref ok, .ref ol, .ref ord, .int isk, .ref odd, .ref otp, .int (nI tpd), .ref olt, .int oat, .int obg, .int otk, .int ovl, .ref orw, .int (nI rmn), .ref oso, .ref osz, .ref oit, .ref oho, .ref ohe, .ref otr, .int (nI tcd), .int own_, .int opt], cin g os 51 (mR stp laws z cnt fogs arms kinds (upd faiths k (hF ((faiths k) - (fearsF (kinds k) (fogs (stp % 6)))))) places (upd moved k (moved k))), cin g odd 8 (upd dd k 1)]) rfl (fun H locs hw => ?_)
        refine lv_tope (y := places k) (hd_pl0 hpl) ?_
        refine mcV hf hk hst hw (c_X11_puts2 l g oh os ok ol ord odd otp olt orw oso osz oit oho ohe otr stp laws z cnt fogs arms kinds (upd faiths k (hF ((faiths k) - (fearsF (kinds k) (fogs (stp % 6)))))) places (upd moved k (moved k)) isk tpd oat obg otk ovl rmn tcd own_ opt k (places k) (by omega)) (cwV 3 hts gX11_goesOn_X11_puts rfl rfl rfl hdV_X11_puts ⟨Nat.le_of_ble_eq_true rfl, Nat.le_of_ble_eq_true rfl⟩) [0, 1] rfl rfl 0 rfl rfl rfl hl.1 rfl (Nat.le_of_ble_eq_true rfl) dX11_goesOn_171 ⟨Nat.zero_le _, Nat.zero_le _⟩ (W' := [cob oh 11 [.ref os, .ref ok, .ref ol, .ref ord, .int isk, .ref odd, .ref otp, .int (nI tpd), .ref olt, .int oat, .int obg, .int otk, .int ovl, .ref orw, .int (nI rmn), .ref oso, .ref osz, .ref oit, .ref oho, .ref ohe, .ref otr, .int (nI tcd), .int own_, .int opt], cin g os 51 (mR stp laws z cnt fogs arms kinds (upd faiths k (hF ((faiths k) - (fearsF (kinds k) (fogs (stp % 6)))))) (upd places k (places k)) (upd moved k (moved k))), cin g odd 8 (upd dd k 1)]) rfl (fun H locs hw => ?_)
        have hfa : vF (kinds k) (fogs (stp % 6)) (arms (stp % 6)) (laws 0) (faiths k) (places k) = hF ((faiths k) - (fearsF (kinds k) (fogs (stp % 6)))) := by unfold vF; rw [if_pos c_1]
        have hmo : vM (kinds k) (fogs (stp % 6)) (arms (stp % 6)) (laws 0) (places k) (moved k) = moved k := by unfold vM; rw [if_pos c_1]
        have hpp : vP (kinds k) (nI stp) (seesF (kinds k) (fogs (stp % 6)) (arms (stp % 6)) (laws 0) (places k)) (laws 1) (laws 2) (vF (kinds k) (fogs (stp % 6)) (arms (stp % 6)) (laws 0) (faiths k) (places k)) (places k) = places k := by unfold vP; rw [hfa, if_pos c_2, if_neg c_3]
        have hdd : dM (laws 1) (laws 2) (vF (kinds k) (fogs (stp % 6)) (arms (stp % 6)) (laws 0) (faiths k) (places k)) = 1 := by unfold dM; rw [hfa, if_pos c_2, if_neg c_3]
        exact re_v hf hr hlk hw (by rw [hpp, hmo, hdd, hfa]) dX11_goesOn_174
    · refine lv_iconst (v := 2) hx hb dX11_goesOn_102 (by decide) ?_
      refine lv_goto (tgt := 122) hx hb dX11_goesOn_103 (by decide) ?_
      refine rsj hf hk hw 2 rfl (j := k) (vp_in_nI (by omega) (by omega)) (nI_clamp (by omega)) dX11_goesOn_122 (W' := [cob oh 11 [.ref os, .ref ok, .ref ol, .ref ord, .int isk, .ref odd, .ref otp, .int (nI tpd), .ref olt, .int oat, .int obg, .int otk, .int ovl, .ref orw, .int (nI rmn), .ref oso, .ref osz, .ref oit, .ref oho, .ref ohe, .ref otr, .int (nI tcd), .int own_, .int opt], cin g os 51 (mR stp laws z cnt fogs arms kinds (upd faiths k (hF ((faiths k) - (fearsF (kinds k) (fogs (stp % 6)))))) places (upd moved k (moved k))), cin g odd 8 (upd dd k 2)]) rfl (fun H locs hw => ?_)
      refine lv_aload_n hx hb dX11_goesOn_123 rfl (lv_at hl 3 rfl) ?_
      refine lv_iload_n hx hb dX11_goesOn_124 rfl (lv_at hl 4 rfl) ?_
      refine lv_iconst (v := 2) hx hb dX11_goesOn_125 (by decide) ?_
      refine mcV hf hk hst hw (c_X11_get2 l g oh os ok ol ord odd otp olt orw oso osz oit oho ohe otr stp laws z cnt fogs arms kinds (upd faiths k (hF ((faiths k) - (fearsF (kinds k) (fogs (stp % 6)))))) places (upd moved k (moved k)) isk tpd oat obg otk ovl rmn tcd own_ opt k (by omega)) (cwV 2 hts gX11_goesOn_X11_get rfl rfl rfl hdV_X11_get ⟨Nat.le_of_ble_eq_true rfl, Nat.le_of_ble_eq_true rfl⟩) [0, 1] rfl rfl 0 rfl rfl rfl hl.1 rfl (Nat.le_of_ble_eq_true rfl) dX11_goesOn_126 ⟨Nat.zero_le _, Nat.zero_le _⟩ (W' := [cob oh 11 [.ref os, .ref ok, .ref ol, .ref ord, .int isk, .ref odd, .ref otp, .int (nI tpd), .ref olt, .int oat, .int obg, .int otk, .int ovl, .ref orw, .int (nI rmn), .ref oso, .ref osz, .ref oit, .ref oho, .ref ohe, .ref otr, .int (nI tcd), .int own_, .int opt], cin g os 51 (mR stp laws z cnt fogs arms kinds (upd faiths k (hF ((faiths k) - (fearsF (kinds k) (fogs (stp % 6)))))) places (upd moved k (moved k))), cin g odd 8 (upd dd k 2)]) rfl (fun H locs hw => ?_)
      refine lv_aload_n hx hb dX11_goesOn_129 rfl (lv_at hl 3 rfl) ?_
      refine rg hf hk hw hinX11 0 rfl rfl 5 (by decide) w_0 rfl dX11_goesOn_130 ?_
      refine lv_iload_n hx hb dX11_goesOn_133 rfl (lv_at hl 4 rfl) ?_
      refine rij hf hk hw 2 rfl (j := k) (vp_in_nI (by omega) (by omega)) (nI_clamp (by omega)) dX11_goesOn_134 ?_
      refine lv_tope (y := 2) pk_us ?_
      refine lv_iconst (v := 2) hx hb dX11_goesOn_135 (by decide) ?_
      refine lv_icmp_ne (tgt := 143) hx hb dX11_goesOn_136 (by decide) (fun q => absurd (by decide) q) (fun _ => ?_)
      refine lv_iconst (v := (-1)) hx hb dX11_goesOn_139 (by decide) ?_
      refine lv_goto (tgt := 158) hx hb dX11_goesOn_140 (by decide) ?_
      refine lv_iadd hx hb dX11_goesOn_158 ?_
      refine lv_istore (lv' := [(5, .int ((places k) + (-1))), (4, .int (hF ((faiths k) - (fearsF (kinds k) (fogs (stp % 6)))))), (3, .int (seesF (kinds k) (fogs (stp % 6)) (arms (stp % 6)) (laws 0) (places k))), (2, .int (paceF (kinds k) (nI stp) (seesF (kinds k) (fogs (stp % 6)) (arms (stp % 6)) (laws 0) (places k)))), (0, .ref oh), (1, .int (nI k))]) hx hb dX11_goesOn_159 hl (by decide) rfl (fun ls hl => ?_)
      refine lv_aload_n hx hb dX11_goesOn_161 rfl (lv_at hl 4 rfl) ?_
      refine lv_iload_n hx hb dX11_goesOn_162 rfl (lv_at hl 5 rfl) ?_
      refine lv_iconst (v := 2) hx hb dX11_goesOn_163 (by decide) ?_
      refine lv_iload hx hb dX11_goesOn_164 (lv_at hl 0 rfl) ?_
      refine lv_bipush (v := 12) hx hb dX11_goesOn_166 (by decide) ?_
      refine mcS hf hk hst hw (c_X11_held l g ((places k) + (-1)) 12) (va_cwS 2 hts gX11_goesOn_X11_held rfl rfl rfl hdS_X11_held ⟨Nat.le_of_ble_eq_true rfl, Nat.le_of_ble_eq_true rfl⟩) [] rfl rfl rfl hl.1 rfl (Nat.le_of_ble_eq_true rfl) dX11_goesOn_168 ⟨Nat.zero_le _, Nat.zero_le _⟩ (W' := [cob oh 11 [.ref os, .ref ok, .ref ol, .ref ord, .int isk, .ref odd, .ref otp, .int (nI tpd), .ref olt, .int oat, .int obg, .int otk, .int ovl, .ref orw, .int (nI rmn), .ref oso, .ref osz, .ref oit, .ref oho, .ref ohe, .ref otr, .int (nI tcd), .int own_, .int opt], cin g os 51 (mR stp laws z cnt fogs arms kinds (upd faiths k (hF ((faiths k) - (fearsF (kinds k) (fogs (stp % 6)))))) places (upd moved k (moved k))), cin g odd 8 (upd dd k 2)]) rfl (fun H locs hw => ?_)
      refine lv_tope (y := mmax32 0 ((places k) - 1)) (hd_plm hpl) ?_
      refine mcV hf hk hst hw (c_X11_puts2 l g oh os ok ol ord odd otp olt orw oso osz oit oho ohe otr stp laws z cnt fogs arms kinds (upd faiths k (hF ((faiths k) - (fearsF (kinds k) (fogs (stp % 6)))))) places (upd moved k (moved k)) isk tpd oat obg otk ovl rmn tcd own_ opt k (mmax32 0 ((places k) - 1)) (by omega)) (cwV 3 hts gX11_goesOn_X11_puts rfl rfl rfl hdV_X11_puts ⟨Nat.le_of_ble_eq_true rfl, Nat.le_of_ble_eq_true rfl⟩) [0, 1] rfl rfl 0 rfl rfl rfl hl.1 rfl (Nat.le_of_ble_eq_true rfl) dX11_goesOn_171 ⟨Nat.zero_le _, Nat.zero_le _⟩ (W' := [cob oh 11 [.ref os, .ref ok, .ref ol, .ref ord, .int isk, .ref odd, .ref otp, .int (nI tpd), .ref olt, .int oat, .int obg, .int otk, .int ovl, .ref orw, .int (nI rmn), .ref oso, .ref osz, .ref oit, .ref oho, .ref ohe, .ref otr, .int (nI tcd), .int own_, .int opt], cin g os 51 (mR stp laws z cnt fogs arms kinds (upd faiths k (hF ((faiths k) - (fearsF (kinds k) (fogs (stp % 6)))))) (upd places k (mmax32 0 ((places k) - 1))) (upd moved k (moved k))), cin g odd 8 (upd dd k 2)]) rfl (fun H locs hw => ?_)
      have hfa : vF (kinds k) (fogs (stp % 6)) (arms (stp % 6)) (laws 0) (faiths k) (places k) = hF ((faiths k) - (fearsF (kinds k) (fogs (stp % 6)))) := by unfold vF; rw [if_pos c_1]
      have hmo : vM (kinds k) (fogs (stp % 6)) (arms (stp % 6)) (laws 0) (places k) (moved k) = moved k := by unfold vM; rw [if_pos c_1]
      have hpp : vP (kinds k) (nI stp) (seesF (kinds k) (fogs (stp % 6)) (arms (stp % 6)) (laws 0) (places k)) (laws 1) (laws 2) (vF (kinds k) (fogs (stp % 6)) (arms (stp % 6)) (laws 0) (faiths k) (places k)) (places k) = mmax32 0 ((places k) - 1) := by unfold vP; rw [hfa, if_neg c_2]
      have hdd : dM (laws 1) (laws 2) (vF (kinds k) (fogs (stp % 6)) (arms (stp % 6)) (laws 0) (faiths k) (places k)) = 2 := by unfold dM; rw [hfa, if_neg c_2]
      exact re_v hf hr hlk hw (by rw [hpp, hmo, hdd, hfa]) dX11_goesOn_174
  · refine lv_aload_n hx hb dX11_goesOn_16 rfl (lv_at hl 2 rfl) ?_
    refine lv_iload_n hx hb dX11_goesOn_17 rfl (lv_at hl 3 rfl) ?_
    refine lv_iconst (v := 1) hx hb dX11_goesOn_18 (by decide) ?_
    refine mcV hf hk hst hw (c_X11_get1 l g oh os ok ol ord odd otp olt orw oso osz oit oho ohe otr stp laws z cnt fogs arms kinds faiths places moved isk tpd oat obg otk ovl rmn tcd own_ opt k (by omega)) (cwV 2 hts gX11_goesOn_X11_get rfl rfl rfl hdV_X11_get ⟨Nat.le_of_ble_eq_true rfl, Nat.le_of_ble_eq_true rfl⟩) [0, 1] rfl rfl 0 rfl rfl rfl hl.1 rfl (Nat.le_of_ble_eq_true rfl) dX11_goesOn_19 ⟨Nat.zero_le _, Nat.zero_le _⟩ (W' := [cob oh 11 [.ref os, .ref ok, .ref ol, .ref ord, .int isk, .ref odd, .ref otp, .int (nI tpd), .ref olt, .int oat, .int obg, .int otk, .int ovl, .ref orw, .int (nI rmn), .ref oso, .ref osz, .ref oit, .ref oho, .ref ohe, .ref otr, .int (nI tcd), .int own_, .int opt], cin g os 51 (mR stp laws z cnt fogs arms kinds faiths places moved), cin g odd 8 dd]) rfl (fun H locs hw => ?_)
    refine lv_aload_n hx hb dX11_goesOn_22 rfl (lv_at hl 2 rfl) ?_
    refine lv_iload_n hx hb dX11_goesOn_23 rfl (lv_at hl 3 rfl) ?_
    refine mcV hf hk hst hw (c_X11_keenOf l g oh os ok ol ord odd otp olt orw oso osz oit oho ohe otr stp laws z cnt fogs arms kinds faiths places moved isk tpd oat obg otk ovl rmn tcd own_ opt k (by omega) (by omega)) (cwV 1 hts gX11_goesOn_X11_keenOf rfl rfl rfl hdV_X11_keenOf ⟨Nat.le_of_ble_eq_true rfl, Nat.le_of_ble_eq_true rfl⟩) [0, 1] rfl rfl 0 rfl rfl rfl hl.1 rfl (Nat.le_of_ble_eq_true rfl) dX11_goesOn_24 ⟨Nat.zero_le _, Nat.zero_le _⟩ (W' := [cob oh 11 [.ref os, .ref ok, .ref ol, .ref ord, .int isk, .ref odd, .ref otp, .int (nI tpd), .ref olt, .int oat, .int obg, .int otk, .int ovl, .ref orw, .int (nI rmn), .ref oso, .ref osz, .ref oit, .ref oho, .ref ohe, .ref otr, .int (nI tcd), .int own_, .int opt], cin g os 51 (mR stp laws z cnt fogs arms kinds faiths places moved), cin g odd 8 dd]) rfl (fun H locs hw => ?_)
    refine lv_iadd hx hb dX11_goesOn_27 ?_
    refine lv_goto (tgt := 43) hx hb dX11_goesOn_28 (by decide) ?_
    refine lv_bipush (v := 99) hx hb dX11_goesOn_43 (by decide) ?_
    refine mcS hf hk hst hw (c_X11_held l g ((faiths k) + (keenF (kinds k) (arms (stp % 6)) (laws 0))) 99) (va_cwS 2 hts gX11_goesOn_X11_held rfl rfl rfl hdS_X11_held ⟨Nat.le_of_ble_eq_true rfl, Nat.le_of_ble_eq_true rfl⟩) [] rfl rfl rfl hl.1 rfl (Nat.le_of_ble_eq_true rfl) dX11_goesOn_45 ⟨Nat.zero_le _, Nat.zero_le _⟩ (W' := [cob oh 11 [.ref os, .ref ok, .ref ol, .ref ord, .int isk, .ref odd, .ref otp, .int (nI tpd), .ref olt, .int oat, .int obg, .int otk, .int ovl, .ref orw, .int (nI rmn), .ref oso, .ref osz, .ref oit, .ref oho, .ref ohe, .ref otr, .int (nI tcd), .int own_, .int opt], cin g os 51 (mR stp laws z cnt fogs arms kinds faiths places moved), cin g odd 8 dd]) rfl (fun H locs hw => ?_)
    refine lv_tope (y := hF ((faiths k) + (keenF (kinds k) (arms (stp % 6)) (laws 0)))) (hd_hF _) ?_
    refine lv_istore (lv' := [(4, .int (hF ((faiths k) + (keenF (kinds k) (arms (stp % 6)) (laws 0))))), (3, .int (seesF (kinds k) (fogs (stp % 6)) (arms (stp % 6)) (laws 0) (places k))), (2, .int (paceF (kinds k) (nI stp) (seesF (kinds k) (fogs (stp % 6)) (arms (stp % 6)) (laws 0) (places k)))), (0, .ref oh), (1, .int (nI k))]) hx hb dX11_goesOn_48 hl (by decide) rfl (fun ls hl => ?_)
    refine lv_aload_n hx hb dX11_goesOn_50 rfl (lv_at hl 3 rfl) ?_
    refine lv_iload_n hx hb dX11_goesOn_51 rfl (lv_at hl 4 rfl) ?_
    refine lv_iconst (v := 1) hx hb dX11_goesOn_52 (by decide) ?_
    refine lv_iload hx hb dX11_goesOn_53 (lv_at hl 0 rfl) ?_
    refine mcV hf hk hst hw (c_X11_puts1 l g oh os ok ol ord odd otp olt orw oso osz oit oho ohe otr stp laws z cnt fogs arms kinds faiths places moved isk tpd oat obg otk ovl rmn tcd own_ opt k (hF ((faiths k) + (keenF (kinds k) (arms (stp % 6)) (laws 0)))) (by omega)) (cwV 3 hts gX11_goesOn_X11_puts rfl rfl rfl hdV_X11_puts ⟨Nat.le_of_ble_eq_true rfl, Nat.le_of_ble_eq_true rfl⟩) [0, 1] rfl rfl 0 rfl rfl rfl hl.1 rfl (Nat.le_of_ble_eq_true rfl) dX11_goesOn_55 ⟨Nat.zero_le _, Nat.zero_le _⟩ (W' := [cob oh 11 [.ref os, .ref ok, .ref ol, .ref ord, .int isk, .ref odd, .ref otp, .int (nI tpd), .ref olt, .int oat, .int obg, .int otk, .int ovl, .ref orw, .int (nI rmn), .ref oso, .ref osz, .ref oit, .ref oho, .ref ohe, .ref otr, .int (nI tcd), .int own_, .int opt], cin g os 51 (mR stp laws z cnt fogs arms kinds (upd faiths k (hF ((faiths k) + (keenF (kinds k) (arms (stp % 6)) (laws 0))))) places moved), cin g odd 8 dd]) rfl (fun H locs hw => ?_)
    refine lv_aload_n hx hb dX11_goesOn_58 rfl (lv_at hl 3 rfl) ?_
    refine lv_iload_n hx hb dX11_goesOn_59 rfl (lv_at hl 4 rfl) ?_
    refine lv_iconst (v := 3) hx hb dX11_goesOn_60 (by decide) ?_
    refine lv_aload_n hx hb dX11_goesOn_61 rfl (lv_at hl 3 rfl) ?_
    refine lv_iload_n hx hb dX11_goesOn_62 rfl (lv_at hl 4 rfl) ?_
    refine lv_iconst (v := 3) hx hb dX11_goesOn_63 (by decide) ?_
    refine mcV hf hk hst hw (c_X11_get3 l g oh os ok ol ord odd otp olt orw oso osz oit oho ohe otr stp laws z cnt fogs arms kinds (upd faiths k (hF ((faiths k) + (keenF (kinds k) (arms (stp % 6)) (laws 0))))) places moved isk tpd oat obg otk ovl rmn tcd own_ opt k (by omega)) (cwV 2 hts gX11_goesOn_X11_get rfl rfl rfl hdV_X11_get ⟨Nat.le_of_ble_eq_true rfl, Nat.le_of_ble_eq_true rfl⟩) [0, 1] rfl rfl 0 rfl rfl rfl hl.1 rfl (Nat.le_of_ble_eq_true rfl) dX11_goesOn_64 ⟨Nat.zero_le _, Nat.zero_le _⟩ (W' := [cob oh 11 [.ref os, .ref ok, .ref ol, .ref ord, .int isk, .ref odd, .ref otp, .int (nI tpd), .ref olt, .int oat, .int obg, .int otk, .int ovl, .ref orw, .int (nI rmn), .ref oso, .ref osz, .ref oit, .ref oho, .ref ohe, .ref otr, .int (nI tcd), .int own_, .int opt], cin g os 51 (mR stp laws z cnt fogs arms kinds (upd faiths k (hF ((faiths k) + (keenF (kinds k) (arms (stp % 6)) (laws 0))))) places moved), cin g odd 8 dd]) rfl (fun H locs hw => ?_)
    refine lv_iload_n hx hb dX11_goesOn_67 rfl (lv_at hl 1 rfl) ?_
    refine lv_if_eq (tgt := 75) hx hb dX11_goesOn_68 (by decide) (fun q => absurd q (c_1)) (fun _ => ?_)
    refine lv_iconst (v := 1) hx hb dX11_goesOn_71 (by decide) ?_
    refine lv_goto (tgt := 76) hx hb dX11_goesOn_72 (by decide) ?_
    refine lv_iadd hx hb dX11_goesOn_76 ?_
    refine lv_sipush (v := 9999) hx hb dX11_goesOn_77 (by decide) ?_
    refine mcS hf hk hst hw (c_X11_held l g ((moved k) + 1) 9999) (va_cwS 2 hts gX11_goesOn_X11_held rfl rfl rfl hdS_X11_held ⟨Nat.le_of_ble_eq_true rfl, Nat.le_of_ble_eq_true rfl⟩) [] rfl rfl rfl hl.1 rfl (Nat.le_of_ble_eq_true rfl) dX11_goesOn_80 ⟨Nat.zero_le _, Nat.zero_le _⟩ (W' := [cob oh 11 [.ref os, .ref ok, .ref ol, .ref ord, .int isk, .ref odd, .ref otp, .int (nI tpd), .ref olt, .int oat, .int obg, .int otk, .int ovl, .ref orw, .int (nI rmn), .ref oso, .ref osz, .ref oit, .ref oho, .ref ohe, .ref otr, .int (nI tcd), .int own_, .int opt], cin g os 51 (mR stp laws z cnt fogs arms kinds (upd faiths k (hF ((faiths k) + (keenF (kinds k) (arms (stp % 6)) (laws 0))))) places moved), cin g odd 8 dd]) rfl (fun H locs hw => ?_)
    refine lv_tope (y := mmin32 9999 ((moved k) + 1)) (hd_mo1 hmo_) ?_
    refine mcV hf hk hst hw (c_X11_puts3 l g oh os ok ol ord odd otp olt orw oso osz oit oho ohe otr stp laws z cnt fogs arms kinds (upd faiths k (hF ((faiths k) + (keenF (kinds k) (arms (stp % 6)) (laws 0))))) places moved isk tpd oat obg otk ovl rmn tcd own_ opt k (mmin32 9999 ((moved k) + 1)) (by omega)) (cwV 3 hts gX11_goesOn_X11_puts rfl rfl rfl hdV_X11_puts ⟨Nat.le_of_ble_eq_true rfl, Nat.le_of_ble_eq_true rfl⟩) [0, 1] rfl rfl 0 rfl rfl rfl hl.1 rfl (Nat.le_of_ble_eq_true rfl) dX11_goesOn_83 ⟨Nat.zero_le _, Nat.zero_le _⟩ (W' := [cob oh 11 [.ref os, .ref ok, .ref ol, .ref ord, .int isk, .ref odd, .ref otp, .int (nI tpd), .ref olt, .int oat, .int obg, .int otk, .int ovl, .ref orw, .int (nI rmn), .ref oso, .ref osz, .ref oit, .ref oho, .ref ohe, .ref otr, .int (nI tcd), .int own_, .int opt], cin g os 51 (mR stp laws z cnt fogs arms kinds (upd faiths k (hF ((faiths k) + (keenF (kinds k) (arms (stp % 6)) (laws 0))))) places (upd moved k (mmin32 9999 ((moved k) + 1)))), cin g odd 8 dd]) rfl (fun H locs hw => ?_)
    refine lv_aload_n hx hb dX11_goesOn_86 rfl (lv_at hl 3 rfl) ?_
    refine rg hf hk hw hinX11 0 rfl rfl 5 (by decide) w_0 rfl dX11_goesOn_87 ?_
    refine lv_iload_n hx hb dX11_goesOn_90 rfl (lv_at hl 4 rfl) ?_
    refine lv_iload hx hb dX11_goesOn_91 (lv_at hl 0 rfl) ?_
    refine lv_aload_n hx hb dX11_goesOn_93 rfl (lv_at hl 3 rfl) ?_
    refine rg hf hk hw hinX11 0 rfl rfl 0 (by decide) w_1 rfl dX11_goesOn_94 ?_
    refine lv_iconst (v := 2) hx hb dX11_goesOn_97 (by decide) ?_
    refine rij hf hk hw 1 rfl (j := 2) (vp_in_nI (n := 2) (by omega) (by omega)) (rfl) dX11_goesOn_98 ?_
    refine lv_tope (y := laws 1) (rfl) ?_
    refine lv_icmp_ge (tgt := 106) hx hb dX11_goesOn_99 (by decide) (fun c_4 => ?_) (fun c_4 => ?_)
    · refine lv_iload hx hb dX11_goesOn_106 (lv_at hl 0 rfl) ?_
      refine lv_aload_n hx hb dX11_goesOn_108 rfl (lv_at hl 3 rfl) ?_
      refine rg hf hk hw hinX11 0 rfl rfl 0 (by decide) w_1 rfl dX11_goesOn_109 ?_
      refine lv_iconst (v := 3) hx hb dX11_goesOn_112 (by decide) ?_
      refine rij hf hk hw 1 rfl (j := 3) (vp_in_nI (n := 3) (by omega) (by omega)) (rfl) dX11_goesOn_113 ?_
      refine lv_tope (y := laws 2) (rfl) ?_
      refine lv_icmp_le (tgt := 121) hx hb dX11_goesOn_114 (by decide) (fun c_5 => ?_) (fun c_5 => ?_)
      · refine lv_iconst (v := 0) hx hb dX11_goesOn_121 (by decide) ?_
        refine rsj hf hk hw 2 rfl (j := k) (vp_in_nI (by omega) (by omega)) (nI_clamp (by omega)) dX11_goesOn_122 (W' := [cob oh 11 [.ref os, .ref ok, .ref ol, .ref ord, .int isk, .ref odd, .ref otp, .int (nI tpd), .ref olt, .int oat, .int obg, .int otk, .int ovl, .ref orw, .int (nI rmn), .ref oso, .ref osz, .ref oit, .ref oho, .ref ohe, .ref otr, .int (nI tcd), .int own_, .int opt], cin g os 51 (mR stp laws z cnt fogs arms kinds (upd faiths k (hF ((faiths k) + (keenF (kinds k) (arms (stp % 6)) (laws 0))))) places (upd moved k (mmin32 9999 ((moved k) + 1)))), cin g odd 8 (upd dd k 0)]) rfl (fun H locs hw => ?_)
        refine lv_aload_n hx hb dX11_goesOn_123 rfl (lv_at hl 3 rfl) ?_
        refine lv_iload_n hx hb dX11_goesOn_124 rfl (lv_at hl 4 rfl) ?_
        refine lv_iconst (v := 2) hx hb dX11_goesOn_125 (by decide) ?_
        refine mcV hf hk hst hw (c_X11_get2 l g oh os ok ol ord odd otp olt orw oso osz oit oho ohe otr stp laws z cnt fogs arms kinds (upd faiths k (hF ((faiths k) + (keenF (kinds k) (arms (stp % 6)) (laws 0))))) places (upd moved k (mmin32 9999 ((moved k) + 1))) isk tpd oat obg otk ovl rmn tcd own_ opt k (by omega)) (cwV 2 hts gX11_goesOn_X11_get rfl rfl rfl hdV_X11_get ⟨Nat.le_of_ble_eq_true rfl, Nat.le_of_ble_eq_true rfl⟩) [0, 1] rfl rfl 0 rfl rfl rfl hl.1 rfl (Nat.le_of_ble_eq_true rfl) dX11_goesOn_126 ⟨Nat.zero_le _, Nat.zero_le _⟩ (W' := [cob oh 11 [.ref os, .ref ok, .ref ol, .ref ord, .int isk, .ref odd, .ref otp, .int (nI tpd), .ref olt, .int oat, .int obg, .int otk, .int ovl, .ref orw, .int (nI rmn), .ref oso, .ref osz, .ref oit, .ref oho, .ref ohe, .ref otr, .int (nI tcd), .int own_, .int opt], cin g os 51 (mR stp laws z cnt fogs arms kinds (upd faiths k (hF ((faiths k) + (keenF (kinds k) (arms (stp % 6)) (laws 0))))) places (upd moved k (mmin32 9999 ((moved k) + 1)))), cin g odd 8 (upd dd k 0)]) rfl (fun H locs hw => ?_)
        refine lv_aload_n hx hb dX11_goesOn_129 rfl (lv_at hl 3 rfl) ?_
        refine rg hf hk hw hinX11 0 rfl rfl 5 (by decide) w_0 rfl dX11_goesOn_130 ?_
        refine lv_iload_n hx hb dX11_goesOn_133 rfl (lv_at hl 4 rfl) ?_
        refine rij hf hk hw 2 rfl (j := k) (vp_in_nI (by omega) (by omega)) (nI_clamp (by omega)) dX11_goesOn_134 ?_
        refine lv_tope (y := 0) pk_us ?_
        refine lv_iconst (v := 2) hx hb dX11_goesOn_135 (by decide) ?_
        refine lv_icmp_ne (tgt := 143) hx hb dX11_goesOn_136 (by decide) (fun _ => ?_) (fun q => absurd q (by decide))
        refine lv_aload_n hx hb dX11_goesOn_143 rfl (lv_at hl 3 rfl) ?_
        refine rg hf hk hw hinX11 0 rfl rfl 5 (by decide) w_0 rfl dX11_goesOn_144 ?_
        refine lv_iload_n hx hb dX11_goesOn_147 rfl (lv_at hl 4 rfl) ?_
        refine rij hf hk hw 2 rfl (j := k) (vp_in_nI (by omega) (by omega)) (nI_clamp (by omega)) dX11_goesOn_148 ?_
        refine lv_tope (y := 0) pk_us ?_
        refine lv_iconst (v := 1) hx hb dX11_goesOn_149 (by decide) ?_
        refine lv_icmp_ne (tgt := 157) hx hb dX11_goesOn_150 (by decide) (fun _ => ?_) (fun q => absurd q (by decide))
        refine lv_iload_n hx hb dX11_goesOn_157 rfl (lv_at hl 2 rfl) ?_
        refine lv_iadd hx hb dX11_goesOn_158 ?_
        refine lv_istore (lv' := [(5, .int ((places k) + (paceF (kinds k) (nI stp) (seesF (kinds k) (fogs (stp % 6)) (arms (stp % 6)) (laws 0) (places k))))), (4, .int (hF ((faiths k) + (keenF (kinds k) (arms (stp % 6)) (laws 0))))), (3, .int (seesF (kinds k) (fogs (stp % 6)) (arms (stp % 6)) (laws 0) (places k))), (2, .int (paceF (kinds k) (nI stp) (seesF (kinds k) (fogs (stp % 6)) (arms (stp % 6)) (laws 0) (places k)))), (0, .ref oh), (1, .int (nI k))]) hx hb dX11_goesOn_159 hl (by decide) rfl (fun ls hl => ?_)
        refine lv_aload_n hx hb dX11_goesOn_161 rfl (lv_at hl 4 rfl) ?_
        refine lv_iload_n hx hb dX11_goesOn_162 rfl (lv_at hl 5 rfl) ?_
        refine lv_iconst (v := 2) hx hb dX11_goesOn_163 (by decide) ?_
        refine lv_iload hx hb dX11_goesOn_164 (lv_at hl 0 rfl) ?_
        refine lv_bipush (v := 12) hx hb dX11_goesOn_166 (by decide) ?_
        refine mcS hf hk hst hw (c_X11_held l g ((places k) + (paceF (kinds k) (nI stp) (seesF (kinds k) (fogs (stp % 6)) (arms (stp % 6)) (laws 0) (places k)))) 12) (va_cwS 2 hts gX11_goesOn_X11_held rfl rfl rfl hdS_X11_held ⟨Nat.le_of_ble_eq_true rfl, Nat.le_of_ble_eq_true rfl⟩) [] rfl rfl rfl hl.1 rfl (Nat.le_of_ble_eq_true rfl) dX11_goesOn_168 ⟨Nat.zero_le _, Nat.zero_le _⟩ (W' := [cob oh 11 [.ref os, .ref ok, .ref ol, .ref ord, .int isk, .ref odd, .ref otp, .int (nI tpd), .ref olt, .int oat, .int obg, .int otk, .int ovl, .ref orw, .int (nI rmn), .ref oso, .ref osz, .ref oit, .ref oho, .ref ohe, .ref otr, .int (nI tcd), .int own_, .int opt], cin g os 51 (mR stp laws z cnt fogs arms kinds (upd faiths k (hF ((faiths k) + (keenF (kinds k) (arms (stp % 6)) (laws 0))))) places (upd moved k (mmin32 9999 ((moved k) + 1)))), cin g odd 8 (upd dd k 0)]) rfl (fun H locs hw => ?_)
        refine lv_tope (y := mmin32 12 ((places k) + (paceF (kinds k) (nI stp) (seesF (kinds k) (fogs (stp % 6)) (arms (stp % 6)) (laws 0) (places k))))) (hd_plp hpl (paceF_ok _ _ _)) ?_
        refine mcV hf hk hst hw (c_X11_puts2 l g oh os ok ol ord odd otp olt orw oso osz oit oho ohe otr stp laws z cnt fogs arms kinds (upd faiths k (hF ((faiths k) + (keenF (kinds k) (arms (stp % 6)) (laws 0))))) places (upd moved k (mmin32 9999 ((moved k) + 1))) isk tpd oat obg otk ovl rmn tcd own_ opt k (mmin32 12 ((places k) + (paceF (kinds k) (nI stp) (seesF (kinds k) (fogs (stp % 6)) (arms (stp % 6)) (laws 0) (places k))))) (by omega)) (cwV 3 hts gX11_goesOn_X11_puts rfl rfl rfl hdV_X11_puts ⟨Nat.le_of_ble_eq_true rfl, Nat.le_of_ble_eq_true rfl⟩) [0, 1] rfl rfl 0 rfl rfl rfl hl.1 rfl (Nat.le_of_ble_eq_true rfl) dX11_goesOn_171 ⟨Nat.zero_le _, Nat.zero_le _⟩ (W' := [cob oh 11 [.ref os, .ref ok, .ref ol, .ref ord, .int isk, .ref odd, .ref otp, .int (nI tpd), .ref olt, .int oat, .int obg, .int otk, .int ovl, .ref orw, .int (nI rmn), .ref oso, .ref osz, .ref oit, .ref oho, .ref ohe, .ref otr, .int (nI tcd), .int own_, .int opt], cin g os 51 (mR stp laws z cnt fogs arms kinds (upd faiths k (hF ((faiths k) + (keenF (kinds k) (arms (stp % 6)) (laws 0))))) (upd places k (mmin32 12 ((places k) + (paceF (kinds k) (nI stp) (seesF (kinds k) (fogs (stp % 6)) (arms (stp % 6)) (laws 0) (places k)))))) (upd moved k (mmin32 9999 ((moved k) + 1)))), cin g odd 8 (upd dd k 0)]) rfl (fun H locs hw => ?_)
        have hfa : vF (kinds k) (fogs (stp % 6)) (arms (stp % 6)) (laws 0) (faiths k) (places k) = hF ((faiths k) + (keenF (kinds k) (arms (stp % 6)) (laws 0))) := by unfold vF; rw [if_neg c_1]
        have hmo : vM (kinds k) (fogs (stp % 6)) (arms (stp % 6)) (laws 0) (places k) (moved k) = mmin32 9999 ((moved k) + 1) := by unfold vM; rw [if_neg c_1]
        have hpp : vP (kinds k) (nI stp) (seesF (kinds k) (fogs (stp % 6)) (arms (stp % 6)) (laws 0) (places k)) (laws 1) (laws 2) (vF (kinds k) (fogs (stp % 6)) (arms (stp % 6)) (laws 0) (faiths k) (places k)) (places k) = mmin32 12 ((places k) + (paceF (kinds k) (nI stp) (seesF (kinds k) (fogs (stp % 6)) (arms (stp % 6)) (laws 0) (places k)))) := by unfold vP; rw [hfa, if_pos c_4, if_pos c_5]
        have hdd : dM (laws 1) (laws 2) (vF (kinds k) (fogs (stp % 6)) (arms (stp % 6)) (laws 0) (faiths k) (places k)) = 0 := by unfold dM; rw [hfa, if_pos c_4, if_pos c_5]
        exact re_v hf hr hlk hw (by rw [hpp, hmo, hdd, hfa]) dX11_goesOn_174
      · refine lv_iconst (v := 1) hx hb dX11_goesOn_117 (by decide) ?_
        refine lv_goto (tgt := 122) hx hb dX11_goesOn_118 (by decide) ?_
        refine rsj hf hk hw 2 rfl (j := k) (vp_in_nI (by omega) (by omega)) (nI_clamp (by omega)) dX11_goesOn_122 (W' := [cob oh 11 [.ref os, .ref ok, .ref ol, .ref ord, .int isk, .ref odd, .ref otp, .int (nI tpd), .ref olt, .int oat, .int obg, .int otk, .int ovl, .ref orw, .int (nI rmn), .ref oso, .ref osz, .ref oit, .ref oho, .ref ohe, .ref otr, .int (nI tcd), .int own_, .int opt], cin g os 51 (mR stp laws z cnt fogs arms kinds (upd faiths k (hF ((faiths k) + (keenF (kinds k) (arms (stp % 6)) (laws 0))))) places (upd moved k (mmin32 9999 ((moved k) + 1)))), cin g odd 8 (upd dd k 1)]) rfl (fun H locs hw => ?_)
        refine lv_aload_n hx hb dX11_goesOn_123 rfl (lv_at hl 3 rfl) ?_
        refine lv_iload_n hx hb dX11_goesOn_124 rfl (lv_at hl 4 rfl) ?_
        refine lv_iconst (v := 2) hx hb dX11_goesOn_125 (by decide) ?_
        refine mcV hf hk hst hw (c_X11_get2 l g oh os ok ol ord odd otp olt orw oso osz oit oho ohe otr stp laws z cnt fogs arms kinds (upd faiths k (hF ((faiths k) + (keenF (kinds k) (arms (stp % 6)) (laws 0))))) places (upd moved k (mmin32 9999 ((moved k) + 1))) isk tpd oat obg otk ovl rmn tcd own_ opt k (by omega)) (cwV 2 hts gX11_goesOn_X11_get rfl rfl rfl hdV_X11_get ⟨Nat.le_of_ble_eq_true rfl, Nat.le_of_ble_eq_true rfl⟩) [0, 1] rfl rfl 0 rfl rfl rfl hl.1 rfl (Nat.le_of_ble_eq_true rfl) dX11_goesOn_126 ⟨Nat.zero_le _, Nat.zero_le _⟩ (W' := [cob oh 11 [.ref os, .ref ok, .ref ol, .ref ord, .int isk, .ref odd, .ref otp, .int (nI tpd), .ref olt, .int oat, .int obg, .int otk, .int ovl, .ref orw, .int (nI rmn), .ref oso, .ref osz, .ref oit, .ref oho, .ref ohe, .ref otr, .int (nI tcd), .int own_, .int opt], cin g os 51 (mR stp laws z cnt fogs arms kinds (upd faiths k (hF ((faiths k) + (keenF (kinds k) (arms (stp % 6)) (laws 0))))) places (upd moved k (mmin32 9999 ((moved k) + 1)))), cin g odd 8 (upd dd k 1)]) rfl (fun H locs hw => ?_)
        refine lv_aload_n hx hb dX11_goesOn_129 rfl (lv_at hl 3 rfl) ?_
        refine rg hf hk hw hinX11 0 rfl rfl 5 (by decide) w_0 rfl dX11_goesOn_130 ?_
        refine lv_iload_n hx hb dX11_goesOn_133 rfl (lv_at hl 4 rfl) ?_
        refine rij hf hk hw 2 rfl (j := k) (vp_in_nI (by omega) (by omega)) (nI_clamp (by omega)) dX11_goesOn_134 ?_
        refine lv_tope (y := 1) pk_us ?_
        refine lv_iconst (v := 2) hx hb dX11_goesOn_135 (by decide) ?_
        refine lv_icmp_ne (tgt := 143) hx hb dX11_goesOn_136 (by decide) (fun _ => ?_) (fun q => absurd q (by decide))
        refine lv_aload_n hx hb dX11_goesOn_143 rfl (lv_at hl 3 rfl) ?_
        refine rg hf hk hw hinX11 0 rfl rfl 5 (by decide) w_0 rfl dX11_goesOn_144 ?_
        refine lv_iload_n hx hb dX11_goesOn_147 rfl (lv_at hl 4 rfl) ?_
        refine rij hf hk hw 2 rfl (j := k) (vp_in_nI (by omega) (by omega)) (nI_clamp (by omega)) dX11_goesOn_148 ?_
        refine lv_tope (y := 1) pk_us ?_
        refine lv_iconst (v := 1) hx hb dX11_goesOn_149 (by decide) ?_
        refine lv_icmp_ne (tgt := 157) hx hb dX11_goesOn_150 (by decide) (fun q => absurd (by decide) q) (fun _ => ?_)
        refine lv_iconst (v := 0) hx hb dX11_goesOn_153 (by decide) ?_
        refine lv_goto (tgt := 158) hx hb dX11_goesOn_154 (by decide) ?_
        refine lv_iadd hx hb dX11_goesOn_158 ?_
        refine lv_istore (lv' := [(5, .int ((places k) + 0)), (4, .int (hF ((faiths k) + (keenF (kinds k) (arms (stp % 6)) (laws 0))))), (3, .int (seesF (kinds k) (fogs (stp % 6)) (arms (stp % 6)) (laws 0) (places k))), (2, .int (paceF (kinds k) (nI stp) (seesF (kinds k) (fogs (stp % 6)) (arms (stp % 6)) (laws 0) (places k)))), (0, .ref oh), (1, .int (nI k))]) hx hb dX11_goesOn_159 hl (by decide) rfl (fun ls hl => ?_)
        refine lv_aload_n hx hb dX11_goesOn_161 rfl (lv_at hl 4 rfl) ?_
        refine lv_iload_n hx hb dX11_goesOn_162 rfl (lv_at hl 5 rfl) ?_
        refine lv_iconst (v := 2) hx hb dX11_goesOn_163 (by decide) ?_
        refine lv_iload hx hb dX11_goesOn_164 (lv_at hl 0 rfl) ?_
        refine lv_bipush (v := 12) hx hb dX11_goesOn_166 (by decide) ?_
        refine mcS hf hk hst hw (c_X11_held l g ((places k) + 0) 12) (va_cwS 2 hts gX11_goesOn_X11_held rfl rfl rfl hdS_X11_held ⟨Nat.le_of_ble_eq_true rfl, Nat.le_of_ble_eq_true rfl⟩) [] rfl rfl rfl hl.1 rfl (Nat.le_of_ble_eq_true rfl) dX11_goesOn_168 ⟨Nat.zero_le _, Nat.zero_le _⟩ (W' := [cob oh 11 [.ref os, .ref ok, .ref ol, .ref ord, .int isk, .ref odd, .ref otp, .int (nI tpd), .ref olt, .int oat, .int obg, .int otk, .int ovl, .ref orw, .int (nI rmn), .ref oso, .ref osz, .ref oit, .ref oho, .ref ohe, .ref otr, .int (nI tcd), .int own_, .int opt], cin g os 51 (mR stp laws z cnt fogs arms kinds (upd faiths k (hF ((faiths k) + (keenF (kinds k) (arms (stp % 6)) (laws 0))))) places (upd moved k (mmin32 9999 ((moved k) + 1)))), cin g odd 8 (upd dd k 1)]) rfl (fun H locs hw => ?_)
        refine lv_tope (y := places k) (hd_pl0 hpl) ?_
        refine mcV hf hk hst hw (c_X11_puts2 l g oh os ok ol ord odd otp olt orw oso osz oit oho ohe otr stp laws z cnt fogs arms kinds (upd faiths k (hF ((faiths k) + (keenF (kinds k) (arms (stp % 6)) (laws 0))))) places (upd moved k (mmin32 9999 ((moved k) + 1))) isk tpd oat obg otk ovl rmn tcd own_ opt k (places k) (by omega)) (cwV 3 hts gX11_goesOn_X11_puts rfl rfl rfl hdV_X11_puts ⟨Nat.le_of_ble_eq_true rfl, Nat.le_of_ble_eq_true rfl⟩) [0, 1] rfl rfl 0 rfl rfl rfl hl.1 rfl (Nat.le_of_ble_eq_true rfl) dX11_goesOn_171 ⟨Nat.zero_le _, Nat.zero_le _⟩ (W' := [cob oh 11 [.ref os, .ref ok, .ref ol, .ref ord, .int isk, .ref odd, .ref otp, .int (nI tpd), .ref olt, .int oat, .int obg, .int otk, .int ovl, .ref orw, .int (nI rmn), .ref oso, .ref osz, .ref oit, .ref oho, .ref ohe, .ref otr, .int (nI tcd), .int own_, .int opt], cin g os 51 (mR stp laws z cnt fogs arms kinds (upd faiths k (hF ((faiths k) + (keenF (kinds k) (arms (stp % 6)) (laws 0))))) (upd places k (places k)) (upd moved k (mmin32 9999 ((moved k) + 1)))), cin g odd 8 (upd dd k 1)]) rfl (fun H locs hw => ?_)
        have hfa : vF (kinds k) (fogs (stp % 6)) (arms (stp % 6)) (laws 0) (faiths k) (places k) = hF ((faiths k) + (keenF (kinds k) (arms (stp % 6)) (laws 0))) := by unfold vF; rw [if_neg c_1]
        have hmo : vM (kinds k) (fogs (stp % 6)) (arms (stp % 6)) (laws 0) (places k) (moved k) = mmin32 9999 ((moved k) + 1) := by unfold vM; rw [if_neg c_1]
        have hpp : vP (kinds k) (nI stp) (seesF (kinds k) (fogs (stp % 6)) (arms (stp % 6)) (laws 0) (places k)) (laws 1) (laws 2) (vF (kinds k) (fogs (stp % 6)) (arms (stp % 6)) (laws 0) (faiths k) (places k)) (places k) = places k := by unfold vP; rw [hfa, if_pos c_4, if_neg c_5]
        have hdd : dM (laws 1) (laws 2) (vF (kinds k) (fogs (stp % 6)) (arms (stp % 6)) (laws 0) (faiths k) (places k)) = 1 := by unfold dM; rw [hfa, if_pos c_4, if_neg c_5]
        exact re_v hf hr hlk hw (by rw [hpp, hmo, hdd, hfa]) dX11_goesOn_174
    · refine lv_iconst (v := 2) hx hb dX11_goesOn_102 (by decide) ?_
      refine lv_goto (tgt := 122) hx hb dX11_goesOn_103 (by decide) ?_
      refine rsj hf hk hw 2 rfl (j := k) (vp_in_nI (by omega) (by omega)) (nI_clamp (by omega)) dX11_goesOn_122 (W' := [cob oh 11 [.ref os, .ref ok, .ref ol, .ref ord, .int isk, .ref odd, .ref otp, .int (nI tpd), .ref olt, .int oat, .int obg, .int otk, .int ovl, .ref orw, .int (nI rmn), .ref oso, .ref osz, .ref oit, .ref oho, .ref ohe, .ref otr, .int (nI tcd), .int own_, .int opt], cin g os 51 (mR stp laws z cnt fogs arms kinds (upd faiths k (hF ((faiths k) + (keenF (kinds k) (arms (stp % 6)) (laws 0))))) places (upd moved k (mmin32 9999 ((moved k) + 1)))), cin g odd 8 (upd dd k 2)]) rfl (fun H locs hw => ?_)
      refine lv_aload_n hx hb dX11_goesOn_123 rfl (lv_at hl 3 rfl) ?_
      refine lv_iload_n hx hb dX11_goesOn_124 rfl (lv_at hl 4 rfl) ?_
      refine lv_iconst (v := 2) hx hb dX11_goesOn_125 (by decide) ?_
      refine mcV hf hk hst hw (c_X11_get2 l g oh os ok ol ord odd otp olt orw oso osz oit oho ohe otr stp laws z cnt fogs arms kinds (upd faiths k (hF ((faiths k) + (keenF (kinds k) (arms (stp % 6)) (laws 0))))) places (upd moved k (mmin32 9999 ((moved k) + 1))) isk tpd oat obg otk ovl rmn tcd own_ opt k (by omega)) (cwV 2 hts gX11_goesOn_X11_get rfl rfl rfl hdV_X11_get ⟨Nat.le_of_ble_eq_true rfl, Nat.le_of_ble_eq_true rfl⟩) [0, 1] rfl rfl 0 rfl rfl rfl hl.1 rfl (Nat.le_of_ble_eq_true rfl) dX11_goesOn_126 ⟨Nat.zero_le _, Nat.zero_le _⟩ (W' := [cob oh 11 [.ref os, .ref ok, .ref ol, .ref ord, .int isk, .ref odd, .ref otp, .int (nI tpd), .ref olt, .int oat, .int obg, .int otk, .int ovl, .ref orw, .int (nI rmn), .ref oso, .ref osz, .ref oit, .ref oho, .ref ohe, .ref otr, .int (nI tcd), .int own_, .int opt], cin g os 51 (mR stp laws z cnt fogs arms kinds (upd faiths k (hF ((faiths k) + (keenF (kinds k) (arms (stp % 6)) (laws 0))))) places (upd moved k (mmin32 9999 ((moved k) + 1)))), cin g odd 8 (upd dd k 2)]) rfl (fun H locs hw => ?_)
      refine lv_aload_n hx hb dX11_goesOn_129 rfl (lv_at hl 3 rfl) ?_
      refine rg hf hk hw hinX11 0 rfl rfl 5 (by decide) w_0 rfl dX11_goesOn_130 ?_
      refine lv_iload_n hx hb dX11_goesOn_133 rfl (lv_at hl 4 rfl) ?_
      refine rij hf hk hw 2 rfl (j := k) (vp_in_nI (by omega) (by omega)) (nI_clamp (by omega)) dX11_goesOn_134 ?_
      refine lv_tope (y := 2) pk_us ?_
      refine lv_iconst (v := 2) hx hb dX11_goesOn_135 (by decide) ?_
      refine lv_icmp_ne (tgt := 143) hx hb dX11_goesOn_136 (by decide) (fun q => absurd (by decide) q) (fun _ => ?_)
      refine lv_iconst (v := (-1)) hx hb dX11_goesOn_139 (by decide) ?_
      refine lv_goto (tgt := 158) hx hb dX11_goesOn_140 (by decide) ?_
      refine lv_iadd hx hb dX11_goesOn_158 ?_
      refine lv_istore (lv' := [(5, .int ((places k) + (-1))), (4, .int (hF ((faiths k) + (keenF (kinds k) (arms (stp % 6)) (laws 0))))), (3, .int (seesF (kinds k) (fogs (stp % 6)) (arms (stp % 6)) (laws 0) (places k))), (2, .int (paceF (kinds k) (nI stp) (seesF (kinds k) (fogs (stp % 6)) (arms (stp % 6)) (laws 0) (places k)))), (0, .ref oh), (1, .int (nI k))]) hx hb dX11_goesOn_159 hl (by decide) rfl (fun ls hl => ?_)
      refine lv_aload_n hx hb dX11_goesOn_161 rfl (lv_at hl 4 rfl) ?_
      refine lv_iload_n hx hb dX11_goesOn_162 rfl (lv_at hl 5 rfl) ?_
      refine lv_iconst (v := 2) hx hb dX11_goesOn_163 (by decide) ?_
      refine lv_iload hx hb dX11_goesOn_164 (lv_at hl 0 rfl) ?_
      refine lv_bipush (v := 12) hx hb dX11_goesOn_166 (by decide) ?_
      refine mcS hf hk hst hw (c_X11_held l g ((places k) + (-1)) 12) (va_cwS 2 hts gX11_goesOn_X11_held rfl rfl rfl hdS_X11_held ⟨Nat.le_of_ble_eq_true rfl, Nat.le_of_ble_eq_true rfl⟩) [] rfl rfl rfl hl.1 rfl (Nat.le_of_ble_eq_true rfl) dX11_goesOn_168 ⟨Nat.zero_le _, Nat.zero_le _⟩ (W' := [cob oh 11 [.ref os, .ref ok, .ref ol, .ref ord, .int isk, .ref odd, .ref otp, .int (nI tpd), .ref olt, .int oat, .int obg, .int otk, .int ovl, .ref orw, .int (nI rmn), .ref oso, .ref osz, .ref oit, .ref oho, .ref ohe, .ref otr, .int (nI tcd), .int own_, .int opt], cin g os 51 (mR stp laws z cnt fogs arms kinds (upd faiths k (hF ((faiths k) + (keenF (kinds k) (arms (stp % 6)) (laws 0))))) places (upd moved k (mmin32 9999 ((moved k) + 1)))), cin g odd 8 (upd dd k 2)]) rfl (fun H locs hw => ?_)
      refine lv_tope (y := mmax32 0 ((places k) - 1)) (hd_plm hpl) ?_
      refine mcV hf hk hst hw (c_X11_puts2 l g oh os ok ol ord odd otp olt orw oso osz oit oho ohe otr stp laws z cnt fogs arms kinds (upd faiths k (hF ((faiths k) + (keenF (kinds k) (arms (stp % 6)) (laws 0))))) places (upd moved k (mmin32 9999 ((moved k) + 1))) isk tpd oat obg otk ovl rmn tcd own_ opt k (mmax32 0 ((places k) - 1)) (by omega)) (cwV 3 hts gX11_goesOn_X11_puts rfl rfl rfl hdV_X11_puts ⟨Nat.le_of_ble_eq_true rfl, Nat.le_of_ble_eq_true rfl⟩) [0, 1] rfl rfl 0 rfl rfl rfl hl.1 rfl (Nat.le_of_ble_eq_true rfl) dX11_goesOn_171 ⟨Nat.zero_le _, Nat.zero_le _⟩ (W' := [cob oh 11 [.ref os, .ref ok, .ref ol, .ref ord, .int isk, .ref odd, .ref otp, .int (nI tpd), .ref olt, .int oat, .int obg, .int otk, .int ovl, .ref orw, .int (nI rmn), .ref oso, .ref osz, .ref oit, .ref oho, .ref ohe, .ref otr, .int (nI tcd), .int own_, .int opt], cin g os 51 (mR stp laws z cnt fogs arms kinds (upd faiths k (hF ((faiths k) + (keenF (kinds k) (arms (stp % 6)) (laws 0))))) (upd places k (mmax32 0 ((places k) - 1))) (upd moved k (mmin32 9999 ((moved k) + 1)))), cin g odd 8 (upd dd k 2)]) rfl (fun H locs hw => ?_)
      have hfa : vF (kinds k) (fogs (stp % 6)) (arms (stp % 6)) (laws 0) (faiths k) (places k) = hF ((faiths k) + (keenF (kinds k) (arms (stp % 6)) (laws 0))) := by unfold vF; rw [if_neg c_1]
      have hmo : vM (kinds k) (fogs (stp % 6)) (arms (stp % 6)) (laws 0) (places k) (moved k) = mmin32 9999 ((moved k) + 1) := by unfold vM; rw [if_neg c_1]
      have hpp : vP (kinds k) (nI stp) (seesF (kinds k) (fogs (stp % 6)) (arms (stp % 6)) (laws 0) (places k)) (laws 1) (laws 2) (vF (kinds k) (fogs (stp % 6)) (arms (stp % 6)) (laws 0) (faiths k) (places k)) (places k) = mmax32 0 ((places k) - 1) := by unfold vP; rw [hfa, if_neg c_4]
      have hdd : dM (laws 1) (laws 2) (vF (kinds k) (fogs (stp % 6)) (arms (stp % 6)) (laws 0) (faiths k) (places k)) = 2 := by unfold dM; rw [hfa, if_neg c_4]
      exact re_v hf hr hlk hw (by rw [hpp, hmo, hdd, hfa]) dX11_goesOn_174
theorem hdV_X11_isThrough : yX11_isThrough.cls = RX11 ∧ yX11_isThrough.cls ≠ "java/lang/invoke/MethodHandle" ∧ yX11_isThrough.cls ≠ "java/lang/invoke/VarHandle" ∧ (parseMethodDescriptor yX11_isThrough.desc).map (fun d => d.parameters.length) = some 1 := by decide +kernel
theorem hdV_X11_goesOn : yX11_goesOn.cls = RX11 ∧ yX11_goesOn.cls ≠ "java/lang/invoke/MethodHandle" ∧ yX11_goesOn.cls ≠ "java/lang/invoke/VarHandle" ∧ (parseMethodDescriptor yX11_goesOn.desc).map (fun d => d.parameters.length) = some 1 := by decide +kernel
abbrev rmX11_step1 : Room := { frames := 5, cells := 0, slots := 0, locals := 111 }
set_option maxHeartbeats 4000000 in
set_option maxRecDepth 100000 in
theorem c_X11_step1 (l : Launch) (g : GG) (oh : Nat) (os : Nat) (ok : Nat) (ol : Nat) (ord : Nat) (odd : Nat) (otp : Nat) (olt : Nat) (orw : Nat) (oso : Nat) (osz : Nat) (oit : Nat) (oho : Nat) (ohe : Nat) (otr : Nat) (stp : Nat) (laws : Nat → Int32) (z : Int32) (cnt : Nat) (fogs : Nat → Int32) (arms : Nat → Int32) (kinds : Nat → Int32) (faiths : Nat → Int32) (places : Nat → Int32) (moved : Nat → Int32) (isk : Int32) (tpd : Nat) (oat : Int32) (obg : Int32) (otk : Int32) (ovl : Int32) (rmn : Nat) (tcd : Nat) (own_ : Int32) (opt : Int32) (dd : Nat → Int32) (hc8 : cnt ≤ 8) (hsp : stp < 2 ^ 30) (hpl : ∀ j, j < cnt → plOk (places j)) (hmo_ : ∀ j, j < cnt → moOk (moved j)) : mt l g yX11_step1 wsX11_step1 rmX11_step1 [.ref oh] [cob oh 11 [.ref os, .ref ok, .ref ol, .ref ord, .int isk, .ref odd, .ref otp, .int (nI tpd), .ref olt, .int oat, .int obg, .int otk, .int ovl, .ref orw, .int (nI rmn), .ref oso, .ref osz, .ref oit, .ref oho, .ref ohe, .ref otr, .int (nI tcd), .int own_, .int opt], cin g os 51 (mR stp laws z cnt fogs arms kinds faiths places moved), cin g odd 8 dd] none [cob oh 11 [.ref os, .ref ok, .ref ol, .ref ord, .int isk, .ref odd, .ref otp, .int (nI tpd), .ref olt, .int oat, .int obg, .int otk, .int ovl, .ref orw, .int (nI rmn), .ref oso, .ref osz, .ref oit, .ref oho, .ref ohe, .ref otr, .int (nI tcd), .int own_, .int opt], cin g os 51 (mR (stp + 1) laws z cnt fogs arms kinds (goF laws fogs arms stp kinds faiths places cnt) (goP laws fogs arms stp kinds faiths places cnt) (goM laws fogs arms stp kinds places moved cnt)), cin g odd 8 (goE laws fogs arms stp kinds faiths places dd cnt)] := by
  refine mt.of (cc := cX11_step1) (nL := 2) (ret := none) (own := RX11) (by decide +kernel) rfl rfl (show ([oh, os, odd] : List Nat) = [oh, os, odd] from rfl) (Nat.le_of_ble_eq_true rfl) (fun p e s m below meth c hf hr hlk _ hk hst hw ls hl => ?_)
  have hx := hf.1
  have hb := hf.2.1
  have hts := hf.2.2.2.2
  have hl : lv_has ls 2 [(0, .ref oh)] := hl
  have hinX11 : ∀ w ∈ u_ws RX11 TX11 24, w ∈ wsX11_step1 := fun w h => List.mem_cons_of_mem _ (List.mem_append_right _ h)
  have w_0 : Cond.fieldLink RX11 9 "LightManModel" "s" "[I" ∈ wsX11_step1 := List.mem_of_getElem? (i := 1) rfl
  have w_1 : Cond.fieldLink RX11 22 "LightManModel" "did" "[I" ∈ wsX11_step1 := List.mem_of_getElem? (i := 2) rfl
  refine lv_iconst (v := 0) hx hb dX11_step1_0 (by decide) ?_
  refine lv_istore_n (lv' := [(1, .int 0), (0, .ref oh)]) hx hb dX11_step1_1 rfl hl (by decide) rfl (fun ls hl => ?_)
  have lp_2_0 : ∀ (fu k : Nat) (fa : Nat → Int32) (pl : Nat → Int32) (mo : Nat → Int32) (de : Nat → Int32), k ≤ cnt → cnt + 1 ≤ k + fu → (fa = goF laws fogs arms stp kinds faiths places k) → (pl = goP laws fogs arms stp kinds faiths places k) → (mo = goM laws fogs arms stp kinds places moved k) → (de = goE laws fogs arms stp kinds faiths places dd k) → ∀ (H : Heap) (locs : List Loc), hv g (va_I [cob oh 11 [.ref os, .ref ok, .ref ol, .ref ord, .int isk, .ref odd, .ref otp, .int (nI tpd), .ref olt, .int oat, .int obg, .int otk, .int ovl, .ref orw, .int (nI rmn), .ref oso, .ref osz, .ref oit, .ref oho, .ref ohe, .ref otr, .int (nI tcd), .int own_, .int opt], cin g os 51 (mR stp laws z cnt fogs arms kinds faiths places moved), cin g odd 8 dd]) s H locs [cob oh 11 [.ref os, .ref ok, .ref ol, .ref ord, .int isk, .ref odd, .ref otp, .int (nI tpd), .ref olt, .int oat, .int obg, .int otk, .int ovl, .ref orw, .int (nI rmn), .ref oso, .ref osz, .ref oit, .ref oho, .ref ohe, .ref otr, .int (nI tcd), .int own_, .int opt], cin g os 51 (mR stp laws z cnt fogs arms kinds fa pl mo), cin g odd 8 de] → ∀ ls : Array Slot, lv_has ls 2 [(1, .int (nI k)), (0, .ref oh)] → W p l e rmX11_step1 s m ([.ref oh] : List Value).toArray below meth c H locs 0 0 (MQ below (mtQ g [cob oh 11 [.ref os, .ref ok, .ref ol, .ref ord, .int isk, .ref odd, .ref otp, .int (nI tpd), .ref olt, .int oat, .int obg, .int otk, .int ovl, .ref orw, .int (nI rmn), .ref oso, .ref osz, .ref oit, .ref oho, .ref ohe, .ref otr, .int (nI tcd), .int own_, .int opt], cin g os 51 (mR stp laws z cnt fogs arms kinds faiths places moved), cin g odd 8 dd] none [cob oh 11 [.ref os, .ref ok, .ref ol, .ref ord, .int isk, .ref odd, .ref otp, .int (nI tpd), .ref olt, .int oat, .int obg, .int otk, .int ovl, .ref orw, .int (nI rmn), .ref oso, .ref osz, .ref oit, .ref oho, .ref ohe, .ref otr, .int (nI tcd), .int own_, .int opt], cin g os 51 (mR (stp + 1) laws z cnt fogs arms kinds (goF laws fogs arms stp kinds faiths places cnt) (goP laws fogs arms stp kinds faiths places cnt) (goM laws fogs arms stp kinds places moved cnt)), cin g odd 8 (goE laws fogs arms stp kinds faiths places dd cnt)]) ([.ref oh] : List Value).toArray s 0 0 (va_I [cob oh 11 [.ref os, .ref ok, .ref ol, .ref ord, .int isk, .ref odd, .ref otp, .int (nI tpd), .ref olt, .int oat, .int obg, .int otk, .int ovl, .ref orw, .int (nI rmn), .ref oso, .ref osz, .ref oit, .ref oho, .ref ohe, .ref otr, .int (nI tcd), .int own_, .int opt], cin g os 51 (mR stp laws z cnt fogs arms kinds faiths places moved), cin g odd 8 dd])) (F0 m 2 ls []) := by
    intro fu
    induction fu with
    | zero =>
      intro k fa pl mo de h1 h2
      exact absurd h2 (by omega)
    | succ fu ih_2 =>
      intro k fa pl mo de hk1_2 hk2_2 efa epl emo ede H locs hw ls hl
      refine lv_iload_n hx hb dX11_step1_2 rfl (lv_at hl 0 rfl) ?_
      refine lv_aload_n hx hb dX11_step1_3 rfl (lv_at hl 1 rfl) ?_
      refine rg hf hk hw hinX11 0 rfl rfl 0 (by decide) w_0 rfl dX11_step1_4 ?_
      refine lv_bipush (v := 6) hx hb dX11_step1_7 (by decide) ?_
      refine rij hf hk hw 1 rfl (j := 6) (vp_in_nI (n := 6) (by omega) (by omega)) (rfl) dX11_step1_9 ?_
      refine lv_tope (y := nI cnt) (rfl) ?_
      refine lv_icmp_ge (tgt := 39) hx hb dX11_step1_10 (by decide) (fun c_2 => ?_) (fun c_2 => ?_)
      · have hkE : k = cnt := Nat.le_antisymm hk1_2 ((nI_leI (by omega) (by omega)).mp c_2)
        rw [hkE] at efa epl emo ede
        refine lv_aload_n hx hb dX11_step1_39 rfl (lv_at hl 1 rfl) ?_
        refine rg hf hk hw hinX11 0 rfl rfl 0 (by decide) w_0 rfl dX11_step1_40 ?_
        refine lv_iconst (v := 0) hx hb dX11_step1_43 (by decide) ?_
        refine lv_dup2_11 hx hb dX11_step1_44 rfl rfl ?_
        refine rij hf hk hw 1 rfl (j := 0) (vp_in_nI (n := 0) (by omega) (by omega)) (rfl) dX11_step1_45 ?_
        refine lv_tope (y := nI stp) (rfl) ?_
        refine lv_iconst (v := 1) hx hb dX11_step1_46 (by decide) ?_
        refine lv_iadd hx hb dX11_step1_47 ?_
        refine lv_tope (y := nI (stp + 1)) (nI_1 _) ?_
        refine rse hf hk hw 1 rfl (j := 0) (vp_in_nI (n := 0) (by omega) (by omega)) (rfl) (mU_stp) dX11_step1_48 (W' := [cob oh 11 [.ref os, .ref ok, .ref ol, .ref ord, .int isk, .ref odd, .ref otp, .int (nI tpd), .ref olt, .int oat, .int obg, .int otk, .int ovl, .ref orw, .int (nI rmn), .ref oso, .ref osz, .ref oit, .ref oho, .ref ohe, .ref otr, .int (nI tcd), .int own_, .int opt], cin g os 51 (mR (stp + 1) laws z cnt fogs arms kinds fa pl mo), cin g odd 8 de]) rfl (fun H locs hw => ?_)
        exact re_v hf hr hlk hw (by rw [efa, epl, emo, ede]) dX11_step1_49
      · have hkE : k < cnt := Nat.not_le.mp (fun h => c_2 ((nI_leI (by omega) (by omega)).mpr h))
        have h1 : fa k = faiths k := by rw [efa]; simp [goF]
        have h2 : pl k = places k := by rw [epl]; simp [goP]
        have h3 : mo k = moved k := by rw [emo]; simp [goM]
        have g1 := goF_s efa epl
        have g2 := goP_s efa epl
        have g3 := goM_s epl emo
        refine lv_aload_n hx hb dX11_step1_13 rfl (lv_at hl 1 rfl) ?_
        refine rg hf hk hw hinX11 0 rfl rfl 5 (by decide) w_1 rfl dX11_step1_14 ?_
        refine lv_iload_n hx hb dX11_step1_17 rfl (lv_at hl 0 rfl) ?_
        refine lv_iconst (v := 0) hx hb dX11_step1_18 (by decide) ?_
        refine rsj hf hk hw 2 rfl (j := k) (vp_in_nI (by omega) (by omega)) (nI_clamp (by omega)) dX11_step1_19 (W' := [cob oh 11 [.ref os, .ref ok, .ref ol, .ref ord, .int isk, .ref odd, .ref otp, .int (nI tpd), .ref olt, .int oat, .int obg, .int otk, .int ovl, .ref orw, .int (nI rmn), .ref oso, .ref osz, .ref oit, .ref oho, .ref ohe, .ref otr, .int (nI tcd), .int own_, .int opt], cin g os 51 (mR stp laws z cnt fogs arms kinds fa pl mo), cin g odd 8 (upd de k 0)]) rfl (fun H locs hw => ?_)
        refine lv_aload_n hx hb dX11_step1_20 rfl (lv_at hl 1 rfl) ?_
        refine lv_iload_n hx hb dX11_step1_21 rfl (lv_at hl 0 rfl) ?_
        refine mcV hf hk hst hw (c_X11_isThrough l g oh os ok ol ord odd otp olt orw oso osz oit oho ohe otr stp laws z cnt fogs arms kinds fa pl mo isk tpd oat obg otk ovl rmn tcd own_ opt k (by omega) (by rw [h2]; exact hpl k hkE)) (cwV 1 hts gX11_step1_X11_isThrough rfl rfl rfl hdV_X11_isThrough ⟨Nat.le_of_ble_eq_true rfl, Nat.le_of_ble_eq_true rfl⟩) [0, 1] rfl rfl 0 rfl rfl rfl hl.1 rfl (Nat.le_of_ble_eq_true rfl) dX11_step1_22 ⟨Nat.zero_le _, Nat.zero_le _⟩ (W' := [cob oh 11 [.ref os, .ref ok, .ref ol, .ref ord, .int isk, .ref odd, .ref otp, .int (nI tpd), .ref olt, .int oat, .int obg, .int otk, .int ovl, .ref orw, .int (nI rmn), .ref oso, .ref osz, .ref oit, .ref oho, .ref ohe, .ref otr, .int (nI tcd), .int own_, .int opt], cin g os 51 (mR stp laws z cnt fogs arms kinds fa pl mo), cin g odd 8 (upd de k 0)]) rfl (fun H locs hw => ?_)
        refine lv_if_ne (tgt := 33) hx hb dX11_step1_25 (by decide) (fun c_3 => ?_) (fun c_3 => ?_)
        · have hth := c_3
          unfold aG at g1 g2 g3
          rw [if_neg hth] at g1 g2 g3
          have hn1 := g1
          have hn2 := g2
          have hn3 := g3
          have hn4 := goE_s ede (x := 0) (by unfold n1E; rw [if_neg (by rw [← h2]; exact hth)])
          refine lv_iinc (v := nI (k + 1)) (lv' := [(1, .int (nI (k + 1))), (0, .ref oh)]) hx hb dX11_step1_33 hl (k := 0) rfl (nI_1 _) (by decide) rfl (fun ls hl => ?_)
          refine lv_goto (tgt := 2) hx hb dX11_step1_36 (by decide) ?_
          exact ih_2 (k + 1) fa pl mo (upd de k 0) (by omega) (by omega) (hn1) (hn2) (hn3) (hn4) _ _ hw _ (lv_sub hl [0, 1] rfl)
        · have hth := c_3
          unfold aG at g1 g2 g3
          rw [if_pos hth] at g1 g2 g3
          have hn1 := g1
          have hn2 := g2
          have hn3 := g3
          have hn4 := goE_s ede (x := dM (laws 1) (laws 2) (vF (kinds k) (fogs (stp % 6)) (arms (stp % 6)) (laws 0) (fa k) (pl k))) (by unfold n1E; rw [if_pos (by rw [← h2]; exact hth), h1, h2])
          rw [← upd_uu de k 0] at hn4
          refine lv_aload_n hx hb dX11_step1_28 rfl (lv_at hl 1 rfl) ?_
          refine lv_iload_n hx hb dX11_step1_29 rfl (lv_at hl 0 rfl) ?_
          refine mcV hf hk hst hw (c_X11_goesOn l g oh os ok ol ord odd otp olt orw oso osz oit oho ohe otr stp laws z cnt fogs arms kinds fa pl mo isk tpd oat obg otk ovl rmn tcd own_ opt (upd de k 0) k (by omega) (by omega) (by rw [h2]; exact hpl k hkE) (by rw [h3]; exact hmo_ k hkE)) (cwV 1 hts gX11_step1_X11_goesOn rfl rfl rfl hdV_X11_goesOn ⟨Nat.le_of_ble_eq_true rfl, Nat.le_of_ble_eq_true rfl⟩) [0, 1, 2] rfl rfl 0 rfl rfl rfl hl.1 rfl (Nat.le_of_ble_eq_true rfl) dX11_step1_30 ⟨Nat.zero_le _, Nat.zero_le _⟩ (W' := [cob oh 11 [.ref os, .ref ok, .ref ol, .ref ord, .int isk, .ref odd, .ref otp, .int (nI tpd), .ref olt, .int oat, .int obg, .int otk, .int ovl, .ref orw, .int (nI rmn), .ref oso, .ref osz, .ref oit, .ref oho, .ref ohe, .ref otr, .int (nI tcd), .int own_, .int opt], cin g os 51 (mR stp laws z cnt fogs arms kinds (upd fa k (vF (kinds k) (fogs (stp % 6)) (arms (stp % 6)) (laws 0) (fa k) (pl k))) (upd pl k (vP (kinds k) (nI stp) (seesF (kinds k) (fogs (stp % 6)) (arms (stp % 6)) (laws 0) (pl k)) (laws 1) (laws 2) (vF (kinds k) (fogs (stp % 6)) (arms (stp % 6)) (laws 0) (fa k) (pl k)) (pl k))) (upd mo k (vM (kinds k) (fogs (stp % 6)) (arms (stp % 6)) (laws 0) (pl k) (mo k)))), cin g odd 8 (upd (upd de k 0) k (dM (laws 1) (laws 2) (vF (kinds k) (fogs (stp % 6)) (arms (stp % 6)) (laws 0) (fa k) (pl k))))]) rfl (fun H locs hw => ?_)
          refine lv_iinc (v := nI (k + 1)) (lv' := [(1, .int (nI (k + 1))), (0, .ref oh)]) hx hb dX11_step1_33 hl (k := 0) rfl (nI_1 _) (by decide) rfl (fun ls hl => ?_)
          refine lv_goto (tgt := 2) hx hb dX11_step1_36 (by decide) ?_
          exact ih_2 (k + 1) (upd fa k (vF (kinds k) (fogs (stp % 6)) (arms (stp % 6)) (laws 0) (fa k) (pl k))) (upd pl k (vP (kinds k) (nI stp) (seesF (kinds k) (fogs (stp % 6)) (arms (stp % 6)) (laws 0) (pl k)) (laws 1) (laws 2) (vF (kinds k) (fogs (stp % 6)) (arms (stp % 6)) (laws 0) (fa k) (pl k)) (pl k))) (upd mo k (vM (kinds k) (fogs (stp % 6)) (arms (stp % 6)) (laws 0) (pl k) (mo k))) (upd (upd de k 0) k (dM (laws 1) (laws 2) (vF (kinds k) (fogs (stp % 6)) (arms (stp % 6)) (laws 0) (fa k) (pl k)))) (by omega) (by omega) (hn1) (hn2) (hn3) (hn4) _ _ hw _ (lv_sub hl [0, 1] rfl)
  exact lp_2_0 (cnt + 1) 0 faiths places moved dd (by omega) (by omega) (goF_0 _ _ _ _ _ _ _) (goP_0 _ _ _ _ _ _ _) (goM_0 _ _ _ _ _ _ _) (ga_0 _ _) _ _ hw _ (lv_sub hl [0, 1] rfl)
theorem hdV_X11_step1 : yX11_step1.cls = RX11 ∧ yX11_step1.cls ≠ "java/lang/invoke/MethodHandle" ∧ yX11_step1.cls ≠ "java/lang/invoke/VarHandle" ∧ (parseMethodDescriptor yX11_step1.desc).map (fun d => d.parameters.length) = some 0 := by decide +kernel
abbrev rmX11_goes : Room := { frames := 6, cells := 0, slots := 0, locals := 132 }
set_option maxHeartbeats 4000000 in
set_option maxRecDepth 100000 in
theorem c_X11_goes (l : Launch) (g : GG) (oh : Nat) (os : Nat) (ok : Nat) (ol : Nat) (ord : Nat) (odd : Nat) (otp : Nat) (olt : Nat) (orw : Nat) (oso : Nat) (osz : Nat) (oit : Nat) (oho : Nat) (ohe : Nat) (otr : Nat) (stp : Nat) (laws : Nat → Int32) (z : Int32) (cnt : Nat) (fogs : Nat → Int32) (arms : Nat → Int32) (kinds : Nat → Int32) (faiths : Nat → Int32) (places : Nat → Int32) (moved : Nat → Int32) (isk : Int32) (tpd : Nat) (oat : Int32) (obg : Int32) (otk : Int32) (ovl : Int32) (rmn : Nat) (tcd : Nat) (own_ : Int32) (opt : Int32) (dd : Nat → Int32) (n : Nat) (hc8 : cnt ≤ 8) (hsp : stp < 2 ^ 29) (hn : n ≤ 60) (hpl : ∀ j, j < cnt → plOk (places j)) (hmo_ : ∀ j, j < cnt → moOk (moved j)) : mt l g yX11_goes wsX11_goes rmX11_goes [.ref oh, .int (nI n)] [cob oh 11 [.ref os, .ref ok, .ref ol, .ref ord, .int isk, .ref odd, .ref otp, .int (nI tpd), .ref olt, .int oat, .int obg, .int otk, .int ovl, .ref orw, .int (nI rmn), .ref oso, .ref osz, .ref oit, .ref oho, .ref ohe, .ref otr, .int (nI tcd), .int own_, .int opt], cin g os 51 (mR stp laws z cnt fogs arms kinds faiths places moved), cin g odd 8 dd] none [cob oh 11 [.ref os, .ref ok, .ref ol, .ref ord, .int isk, .ref odd, .ref otp, .int (nI tpd), .ref olt, .int oat, .int obg, .int otk, .int ovl, .ref orw, .int (nI rmn), .ref oso, .ref osz, .ref oit, .ref oho, .ref ohe, .ref otr, .int (nI tcd), .int own_, .int opt], cin g os 51 (mR (stp + n) laws z cnt fogs arms kinds ((stA laws fogs arms kinds cnt stp faiths places moved n).1) ((stA laws fogs arms kinds cnt stp faiths places moved n).2.1) ((stA laws fogs arms kinds cnt stp faiths places moved n).2.2)), cin g odd 8 (stE laws fogs arms kinds cnt stp faiths places moved dd n)] := by
  refine mt.of (cc := cX11_goes) (nL := 3) (ret := none) (own := RX11) (by decide +kernel) rfl rfl (show ([oh, os, odd] : List Nat) = [oh, os, odd] from rfl) (Nat.le_of_ble_eq_true rfl) (fun p e s m below meth c hf hr hlk _ hk hst hw ls hl => ?_)
  have hx := hf.1
  have hb := hf.2.1
  have hts := hf.2.2.2.2
  have hl : lv_has ls 3 [(0, .ref oh), (1, .int (nI n))] := hl
  refine lv_iconst (v := 0) hx hb dX11_goes_0 (by decide) ?_
  refine lv_istore_n (lv' := [(2, .int 0), (0, .ref oh), (1, .int (nI n))]) hx hb dX11_goes_1 rfl hl (by decide) rfl (fun ls hl => ?_)
  have lp_2_0 : ∀ (fu k : Nat), k ≤ n → n + 1 ≤ k + fu → ∀ (H : Heap) (locs : List Loc), hv g (va_I [cob oh 11 [.ref os, .ref ok, .ref ol, .ref ord, .int isk, .ref odd, .ref otp, .int (nI tpd), .ref olt, .int oat, .int obg, .int otk, .int ovl, .ref orw, .int (nI rmn), .ref oso, .ref osz, .ref oit, .ref oho, .ref ohe, .ref otr, .int (nI tcd), .int own_, .int opt], cin g os 51 (mR stp laws z cnt fogs arms kinds faiths places moved), cin g odd 8 dd]) s H locs [cob oh 11 [.ref os, .ref ok, .ref ol, .ref ord, .int isk, .ref odd, .ref otp, .int (nI tpd), .ref olt, .int oat, .int obg, .int otk, .int ovl, .ref orw, .int (nI rmn), .ref oso, .ref osz, .ref oit, .ref oho, .ref ohe, .ref otr, .int (nI tcd), .int own_, .int opt], cin g os 51 (mR (stp + k) laws z cnt fogs arms kinds ((stA laws fogs arms kinds cnt stp faiths places moved k).1) ((stA laws fogs arms kinds cnt stp faiths places moved k).2.1) ((stA laws fogs arms kinds cnt stp faiths places moved k).2.2)), cin g odd 8 (stE laws fogs arms kinds cnt stp faiths places moved dd k)] → ∀ ls : Array Slot, lv_has ls 3 [(2, .int (nI k)), (0, .ref oh), (1, .int (nI n))] → W p l e rmX11_goes s m ([.ref oh, .int (nI n)] : List Value).toArray below meth c H locs 0 0 (MQ below (mtQ g [cob oh 11 [.ref os, .ref ok, .ref ol, .ref ord, .int isk, .ref odd, .ref otp, .int (nI tpd), .ref olt, .int oat, .int obg, .int otk, .int ovl, .ref orw, .int (nI rmn), .ref oso, .ref osz, .ref oit, .ref oho, .ref ohe, .ref otr, .int (nI tcd), .int own_, .int opt], cin g os 51 (mR stp laws z cnt fogs arms kinds faiths places moved), cin g odd 8 dd] none [cob oh 11 [.ref os, .ref ok, .ref ol, .ref ord, .int isk, .ref odd, .ref otp, .int (nI tpd), .ref olt, .int oat, .int obg, .int otk, .int ovl, .ref orw, .int (nI rmn), .ref oso, .ref osz, .ref oit, .ref oho, .ref ohe, .ref otr, .int (nI tcd), .int own_, .int opt], cin g os 51 (mR (stp + n) laws z cnt fogs arms kinds ((stA laws fogs arms kinds cnt stp faiths places moved n).1) ((stA laws fogs arms kinds cnt stp faiths places moved n).2.1) ((stA laws fogs arms kinds cnt stp faiths places moved n).2.2)), cin g odd 8 (stE laws fogs arms kinds cnt stp faiths places moved dd n)]) ([.ref oh, .int (nI n)] : List Value).toArray s 0 0 (va_I [cob oh 11 [.ref os, .ref ok, .ref ol, .ref ord, .int isk, .ref odd, .ref otp, .int (nI tpd), .ref olt, .int oat, .int obg, .int otk, .int ovl, .ref orw, .int (nI rmn), .ref oso, .ref osz, .ref oit, .ref oho, .ref ohe, .ref otr, .int (nI tcd), .int own_, .int opt], cin g os 51 (mR stp laws z cnt fogs arms kinds faiths places moved), cin g odd 8 dd])) (F0 m 2 ls []) := by
    intro fu
    induction fu with
    | zero =>
      intro k h1 h2
      exact absurd h2 (by omega)
    | succ fu ih_2 =>
      intro k hk1_2 hk2_2 H locs hw ls hl
      refine lv_iload_n hx hb dX11_goes_2 rfl (lv_at hl 0 rfl) ?_
      refine lv_iload_n hx hb dX11_goes_3 rfl (lv_at hl 2 rfl) ?_
      refine lv_icmp_ge (tgt := 17) hx hb dX11_goes_4 (by decide) (fun c_2 => ?_) (fun c_2 => ?_)
      · have hkE : k = n := Nat.le_antisymm hk1_2 ((nI_leI (by omega) (by omega)).mp c_2)
        exact re_v hf hr hlk hw (by rw [hkE]) dX11_goes_17
      · have hkE : k < n := Nat.not_le.mp (fun h => c_2 ((nI_leI (by omega) (by omega)).mpr h))
        refine lv_aload_n hx hb dX11_goes_7 rfl (lv_at hl 1 rfl) ?_
        refine mcV hf hk hst hw (c_X11_step1 l g oh os ok ol ord odd otp olt orw oso osz oit oho ohe otr (stp + k) laws z cnt fogs arms kinds ((stA laws fogs arms kinds cnt stp faiths places moved k).1) ((stA laws fogs arms kinds cnt stp faiths places moved k).2.1) ((stA laws fogs arms kinds cnt stp faiths places moved k).2.2) isk tpd oat obg otk ovl rmn tcd own_ opt (stE laws fogs arms kinds cnt stp faiths places moved dd k) (by omega) (by omega) ((stA_ok hpl hmo_ k).1) ((stA_ok hpl hmo_ k).2)) (cwV 0 hts gX11_goes_X11_step1 rfl rfl rfl hdV_X11_step1 ⟨Nat.le_of_ble_eq_true rfl, Nat.le_of_ble_eq_true rfl⟩) [0, 1, 2] rfl rfl 0 rfl rfl rfl hl.1 rfl (Nat.le_of_ble_eq_true rfl) dX11_goes_8 ⟨Nat.zero_le _, Nat.zero_le _⟩ (W' := [cob oh 11 [.ref os, .ref ok, .ref ol, .ref ord, .int isk, .ref odd, .ref otp, .int (nI tpd), .ref olt, .int oat, .int obg, .int otk, .int ovl, .ref orw, .int (nI rmn), .ref oso, .ref osz, .ref oit, .ref oho, .ref ohe, .ref otr, .int (nI tcd), .int own_, .int opt], cin g os 51 (mR ((stp + k) + 1) laws z cnt fogs arms kinds (goF laws fogs arms (stp + k) kinds ((stA laws fogs arms kinds cnt stp faiths places moved k).1) ((stA laws fogs arms kinds cnt stp faiths places moved k).2.1) cnt) (goP laws fogs arms (stp + k) kinds ((stA laws fogs arms kinds cnt stp faiths places moved k).1) ((stA laws fogs arms kinds cnt stp faiths places moved k).2.1) cnt) (goM laws fogs arms (stp + k) kinds ((stA laws fogs arms kinds cnt stp faiths places moved k).2.1) ((stA laws fogs arms kinds cnt stp faiths places moved k).2.2) cnt)), cin g odd 8 (goE laws fogs arms (stp + k) kinds ((stA laws fogs arms kinds cnt stp faiths places moved k).1) ((stA laws fogs arms kinds cnt stp faiths places moved k).2.1) (stE laws fogs arms kinds cnt stp faiths places moved dd k) cnt)]) rfl (fun H locs hw => ?_)
        refine lv_iinc (v := nI (k + 1)) (lv' := [(2, .int (nI (k + 1))), (0, .ref oh), (1, .int (nI n))]) hx hb dX11_goes_11 hl (k := 0) rfl (nI_1 _) (by decide) rfl (fun ls hl => ?_)
        refine lv_goto (tgt := 2) hx hb dX11_goes_14 (by decide) ?_
        have e_1 : mR ((stp + k) + 1) laws z cnt fogs arms kinds (goF laws fogs arms (stp + k) kinds ((stA laws fogs arms kinds cnt stp faiths places moved k).1) ((stA laws fogs arms kinds cnt stp faiths places moved k).2.1) cnt) (goP laws fogs arms (stp + k) kinds ((stA laws fogs arms kinds cnt stp faiths places moved k).1) ((stA laws fogs arms kinds cnt stp faiths places moved k).2.1) cnt) (goM laws fogs arms (stp + k) kinds ((stA laws fogs arms kinds cnt stp faiths places moved k).2.1) ((stA laws fogs arms kinds cnt stp faiths places moved k).2.2) cnt) = mR (stp + (k + 1)) laws z cnt fogs arms kinds ((stA laws fogs arms kinds cnt stp faiths places moved (k + 1)).1) ((stA laws fogs arms kinds cnt stp faiths places moved (k + 1)).2.1) ((stA laws fogs arms kinds cnt stp faiths places moved (k + 1)).2.2) := rfl
        rw [e_1] at hw
        have e_2 : goE laws fogs arms (stp + k) kinds ((stA laws fogs arms kinds cnt stp faiths places moved k).1) ((stA laws fogs arms kinds cnt stp faiths places moved k).2.1) (stE laws fogs arms kinds cnt stp faiths places moved dd k) cnt = (stE laws fogs arms kinds cnt stp faiths places moved dd (k + 1)) := rfl
        rw [e_2] at hw
        exact ih_2 (k + 1) (by omega) (by omega) _ _ hw _ (lv_sub hl [0, 1, 2] rfl)
  exact lp_2_0 (n + 1) 0 (by omega) (by omega) _ _ hw _ (lv_sub hl [0, 1, 2] rfl)
abbrev rmX11_setOf1 : Room := { frames := 2, cells := 0, slots := 0, locals := 43 }
set_option maxHeartbeats 4000000 in
set_option maxRecDepth 100000 in
theorem c_X11_setOf1 (l : Launch) (g : GG) (oh : Nat) (os : Nat) (ok : Nat) (ol : Nat) (ord : Nat) (odd : Nat) (otp : Nat) (olt : Nat) (orw : Nat) (oso : Nat) (osz : Nat) (oit : Nat) (oho : Nat) (ohe : Nat) (otr : Nat) (stp : Nat) (laws : Nat → Int32) (z : Int32) (cnt : Nat) (fogs : Nat → Int32) (arms : Nat → Int32) (kinds : Nat → Int32) (faiths : Nat → Int32) (places : Nat → Int32) (moved : Nat → Int32) (isk : Int32) (tpd : Nat) (oat : Int32) (obg : Int32) (otk : Int32) (ovl : Int32) (rmn : Nat) (tcd : Nat) (own_ : Int32) (opt : Int32) (hc8 : cnt ≤ 8) (hpl : ∀ j, j < cnt → plOk (places j)) : mt l g yX11_setOf wsX11_setOf rmX11_setOf1 [.ref oh, .int 1] [cob oh 11 [.ref os, .ref ok, .ref ol, .ref ord, .int isk, .ref odd, .ref otp, .int (nI tpd), .ref olt, .int oat, .int obg, .int otk, .int ovl, .ref orw, .int (nI rmn), .ref oso, .ref osz, .ref oit, .ref oho, .ref ohe, .ref otr, .int (nI tcd), .int own_, .int opt], cin g os 51 (mR stp laws z cnt fogs arms kinds faiths places moved)] (some (.int (setTo (thrs places) cnt))) [cob oh 11 [.ref os, .ref ok, .ref ol, .ref ord, .int isk, .ref odd, .ref otp, .int (nI tpd), .ref olt, .int oat, .int obg, .int otk, .int ovl, .ref orw, .int (nI rmn), .ref oso, .ref osz, .ref oit, .ref oho, .ref ohe, .ref otr, .int (nI tcd), .int own_, .int opt], cin g os 51 (mR stp laws z cnt fogs arms kinds faiths places moved)] := by
  refine mt.of (cc := cX11_setOf) (nL := 5) (ret := (some .int)) (own := RX11) (by decide +kernel) rfl rfl (show ([oh, os] : List Nat) = [oh, os] from rfl) (Nat.le_of_ble_eq_true rfl) (fun p e s m below meth c hf hr hlk _ hk hst hw ls hl => ?_)
  have hx := hf.1
  have hb := hf.2.1
  have hts := hf.2.2.2.2
  have hl : lv_has ls 5 [(0, .ref oh), (1, .int 1)] := hl
  have hinX11 : ∀ w ∈ u_ws RX11 TX11 24, w ∈ wsX11_setOf := fun w h => List.mem_cons_of_mem _ (List.mem_append_right _ h)
  have w_0 : Cond.fieldLink RX11 9 "LightManModel" "s" "[I" ∈ wsX11_setOf := List.mem_of_getElem? (i := 1) rfl
  refine lv_iconst (v := 0) hx hb dX11_setOf_0 (by decide) ?_
  refine lv_istore_n (lv' := [(2, .int 0), (0, .ref oh), (1, .int 1)]) hx hb dX11_setOf_1 rfl hl (by decide) rfl (fun ls hl => ?_)
  refine lv_iconst (v := 0) hx hb dX11_setOf_2 (by decide) ?_
  refine lv_istore_n (lv' := [(3, .int 0), (2, .int 0), (0, .ref oh), (1, .int 1)]) hx hb dX11_setOf_3 rfl hl (by decide) rfl (fun ls hl => ?_)
  have lp_4_0 : ∀ (fu k : Nat), k ≤ cnt → cnt + 1 ≤ k + fu → ∀ (H : Heap) (locs : List Loc), hv g (va_I [cob oh 11 [.ref os, .ref ok, .ref ol, .ref ord, .int isk, .ref odd, .ref otp, .int (nI tpd), .ref olt, .int oat, .int obg, .int otk, .int ovl, .ref orw, .int (nI rmn), .ref oso, .ref osz, .ref oit, .ref oho, .ref ohe, .ref otr, .int (nI tcd), .int own_, .int opt], cin g os 51 (mR stp laws z cnt fogs arms kinds faiths places moved)]) s H locs [cob oh 11 [.ref os, .ref ok, .ref ol, .ref ord, .int isk, .ref odd, .ref otp, .int (nI tpd), .ref olt, .int oat, .int obg, .int otk, .int ovl, .ref orw, .int (nI rmn), .ref oso, .ref osz, .ref oit, .ref oho, .ref ohe, .ref otr, .int (nI tcd), .int own_, .int opt], cin g os 51 (mR stp laws z cnt fogs arms kinds faiths places moved)] → ∀ ls : Array Slot, lv_has ls 5 [(3, .int (nI k)), (2, .int (setTo (thrs places) k)), (0, .ref oh), (1, .int 1)] → W p l e rmX11_setOf1 s m ([.ref oh, .int 1] : List Value).toArray below meth c H locs 0 0 (MQ below (mtQ g [cob oh 11 [.ref os, .ref ok, .ref ol, .ref ord, .int isk, .ref odd, .ref otp, .int (nI tpd), .ref olt, .int oat, .int obg, .int otk, .int ovl, .ref orw, .int (nI rmn), .ref oso, .ref osz, .ref oit, .ref oho, .ref ohe, .ref otr, .int (nI tcd), .int own_, .int opt], cin g os 51 (mR stp laws z cnt fogs arms kinds faiths places moved)] (some (.int (setTo (thrs places) cnt))) [cob oh 11 [.ref os, .ref ok, .ref ol, .ref ord, .int isk, .ref odd, .ref otp, .int (nI tpd), .ref olt, .int oat, .int obg, .int otk, .int ovl, .ref orw, .int (nI rmn), .ref oso, .ref osz, .ref oit, .ref oho, .ref ohe, .ref otr, .int (nI tcd), .int own_, .int opt], cin g os 51 (mR stp laws z cnt fogs arms kinds faiths places moved)]) ([.ref oh, .int 1] : List Value).toArray s 0 0 (va_I [cob oh 11 [.ref os, .ref ok, .ref ol, .ref ord, .int isk, .ref odd, .ref otp, .int (nI tpd), .ref olt, .int oat, .int obg, .int otk, .int ovl, .ref orw, .int (nI rmn), .ref oso, .ref osz, .ref oit, .ref oho, .ref ohe, .ref otr, .int (nI tcd), .int own_, .int opt], cin g os 51 (mR stp laws z cnt fogs arms kinds faiths places moved)])) (F0 m 4 ls []) := by
    intro fu
    induction fu with
    | zero =>
      intro k h1 h2
      exact absurd h2 (by omega)
    | succ fu ih_4 =>
      intro k hk1_4 hk2_4 H locs hw ls hl
      refine lv_iload_n hx hb dX11_setOf_4 rfl (lv_at hl 0 rfl) ?_
      refine lv_aload_n hx hb dX11_setOf_5 rfl (lv_at hl 2 rfl) ?_
      refine rg hf hk hw hinX11 0 rfl rfl 0 (by decide) w_0 rfl dX11_setOf_6 ?_
      refine lv_bipush (v := 6) hx hb dX11_setOf_9 (by decide) ?_
      refine rij hf hk hw 1 rfl (j := 6) (vp_in_nI (n := 6) (by omega) (by omega)) (rfl) dX11_setOf_11 ?_
      refine lv_tope (y := nI cnt) (rfl) ?_
      refine lv_icmp_ge (tgt := 72) hx hb dX11_setOf_12 (by decide) (fun c_2 => ?_) (fun c_2 => ?_)
      · have hkE : k = cnt := Nat.le_antisymm hk1_4 ((nI_leI (by omega) (by omega)).mp c_2)
        refine lv_iload_n hx hb dX11_setOf_72 rfl (lv_at hl 1 rfl) ?_
        exact re_i hf hr hlk hw (by rw [hkE]) (rfl) dX11_setOf_73
      · have hkE : k < cnt := Nat.not_le.mp (fun h => c_2 ((nI_leI (by omega) (by omega)).mpr h))
        refine lv_iload_n hx hb dX11_setOf_15 rfl (lv_at hl 3 rfl) ?_
        refine lv_iconst (v := 1) hx hb dX11_setOf_16 (by decide) ?_
        refine lv_icmp_ne (tgt := 28) hx hb dX11_setOf_17 (by decide) (fun q => absurd (by decide) q) (fun _ => ?_)
        refine lv_aload_n hx hb dX11_setOf_20 rfl (lv_at hl 2 rfl) ?_
        refine lv_iload_n hx hb dX11_setOf_21 rfl (lv_at hl 0 rfl) ?_
        refine mcV hf hk hst hw (c_X11_isThrough l g oh os ok ol ord odd otp olt orw oso osz oit oho ohe otr stp laws z cnt fogs arms kinds faiths places moved isk tpd oat obg otk ovl rmn tcd own_ opt k (by omega) (hpl k hkE)) (cwV 1 hts gX11_setOf_X11_isThrough rfl rfl rfl hdV_X11_isThrough ⟨Nat.le_of_ble_eq_true rfl, Nat.le_of_ble_eq_true rfl⟩) [0, 1] rfl rfl 0 rfl rfl rfl hl.1 rfl (Nat.le_of_ble_eq_true rfl) dX11_setOf_22 ⟨Nat.zero_le _, Nat.zero_le _⟩ (W' := [cob oh 11 [.ref os, .ref ok, .ref ol, .ref ord, .int isk, .ref odd, .ref otp, .int (nI tpd), .ref olt, .int oat, .int obg, .int otk, .int ovl, .ref orw, .int (nI rmn), .ref oso, .ref osz, .ref oit, .ref oho, .ref ohe, .ref otr, .int (nI tcd), .int own_, .int opt], cin g os 51 (mR stp laws z cnt fogs arms kinds faiths places moved)]) rfl (fun H locs hw => ?_)
        refine lv_goto (tgt := 49) hx hb dX11_setOf_25 (by decide) ?_
        refine lv_istore (lv' := [(4, .int (thrF (places k))), (3, .int (nI k)), (2, .int (setTo (thrs places) k)), (0, .ref oh), (1, .int 1)]) hx hb dX11_setOf_49 hl (by decide) rfl (fun ls hl => ?_)
        refine lv_iload_n hx hb dX11_setOf_51 rfl (lv_at hl 2 rfl) ?_
        refine lv_iload hx hb dX11_setOf_52 (lv_at hl 0 rfl) ?_
        refine lv_if_eq (tgt := 63) hx hb dX11_setOf_54 (by decide) (fun c_3 => ?_) (fun c_3 => ?_)
        · have hq : (thrs places) k = 0 := c_3
          refine lv_iconst (v := 0) hx hb dX11_setOf_63 (by decide) ?_
          refine lv_ior hx hb dX11_setOf_64 ?_
          refine lv_istore_n (lv' := [(2, .int ((setTo (thrs places) k) ||| 0)), (4, .int (thrF (places k))), (3, .int (nI k)), (0, .ref oh), (1, .int 1)]) hx hb dX11_setOf_65 rfl hl (by decide) rfl (fun ls hl => ?_)
          refine lv_iinc (v := nI (k + 1)) (lv' := [(3, .int (nI (k + 1))), (2, .int ((setTo (thrs places) k) ||| 0)), (4, .int (thrF (places k))), (0, .ref oh), (1, .int 1)]) hx hb dX11_setOf_66 hl (k := 2) rfl (nI_1 _) (by decide) rfl (fun ls hl => ?_)
          refine lv_goto (tgt := 4) hx hb dX11_setOf_69 (by decide) ?_
          have e_1 : (setTo (thrs places) k) ||| 0 = setTo (thrs places) (k + 1) := by rw [or0]; exact (if_pos hq).symm
          rw [e_1] at hl
          exact ih_4 (k + 1) (by omega) (by omega) _ _ hw _ (lv_sub hl [0, 1, 3, 4] rfl)
        · have hq : ¬ (thrs places) k = 0 := c_3
          refine lv_iconst (v := 1) hx hb dX11_setOf_57 (by decide) ?_
          refine lv_iload_n hx hb dX11_setOf_58 rfl (lv_at hl 1 rfl) ?_
          refine lv_ishl hx hb dX11_setOf_59 ?_
          refine lv_goto (tgt := 64) hx hb dX11_setOf_60 (by decide) ?_
          refine lv_ior hx hb dX11_setOf_64 ?_
          refine lv_istore_n (lv' := [(2, .int ((setTo (thrs places) k) ||| (1 <<< ((nI k) &&& 31)))), (4, .int (thrF (places k))), (3, .int (nI k)), (0, .ref oh), (1, .int 1)]) hx hb dX11_setOf_65 rfl hl (by decide) rfl (fun ls hl => ?_)
          refine lv_iinc (v := nI (k + 1)) (lv' := [(3, .int (nI (k + 1))), (2, .int ((setTo (thrs places) k) ||| (1 <<< ((nI k) &&& 31)))), (4, .int (thrF (places k))), (0, .ref oh), (1, .int 1)]) hx hb dX11_setOf_66 hl (k := 2) rfl (nI_1 _) (by decide) rfl (fun ls hl => ?_)
          refine lv_goto (tgt := 4) hx hb dX11_setOf_69 (by decide) ?_
          have e_1 : (setTo (thrs places) k) ||| (1 <<< ((nI k) &&& 31)) = setTo (thrs places) (k + 1) := (if_neg hq).symm
          rw [e_1] at hl
          exact ih_4 (k + 1) (by omega) (by omega) _ _ hw _ (lv_sub hl [0, 1, 3, 4] rfl)
  exact lp_4_0 (cnt + 1) 0 (by omega) (by omega) _ _ hw _ (lv_sub hl [0, 1, 2, 3] rfl)
abbrev rmX11_setOf2 : Room := { frames := 3, cells := 0, slots := 0, locals := 65 }
set_option maxHeartbeats 4000000 in
set_option maxRecDepth 100000 in
theorem c_X11_setOf2 (l : Launch) (g : GG) (oh : Nat) (os : Nat) (ok : Nat) (ol : Nat) (ord : Nat) (odd : Nat) (otp : Nat) (olt : Nat) (orw : Nat) (oso : Nat) (osz : Nat) (oit : Nat) (oho : Nat) (ohe : Nat) (otr : Nat) (stp : Nat) (laws : Nat → Int32) (z : Int32) (cnt : Nat) (fogs : Nat → Int32) (arms : Nat → Int32) (kinds : Nat → Int32) (faiths : Nat → Int32) (places : Nat → Int32) (moved : Nat → Int32) (isk : Int32) (tpd : Nat) (oat : Int32) (obg : Int32) (otk : Int32) (ovl : Int32) (rmn : Nat) (tcd : Nat) (own_ : Int32) (opt : Int32) (hc8 : cnt ≤ 8) (hsp : stp < 2 ^ 30) (hpl : ∀ j, j < cnt → plOk (places j)) : mt l g yX11_setOf wsX11_setOf rmX11_setOf2 [.ref oh, .int 2] [cob oh 11 [.ref os, .ref ok, .ref ol, .ref ord, .int isk, .ref odd, .ref otp, .int (nI tpd), .ref olt, .int oat, .int obg, .int otk, .int ovl, .ref orw, .int (nI rmn), .ref oso, .ref osz, .ref oit, .ref oho, .ref ohe, .ref otr, .int (nI tcd), .int own_, .int opt], cin g os 51 (mR stp laws z cnt fogs arms kinds faiths places moved)] (some (.int (setTo (snows laws fogs arms stp kinds places) cnt))) [cob oh 11 [.ref os, .ref ok, .ref ol, .ref ord, .int isk, .ref odd, .ref otp, .int (nI tpd), .ref olt, .int oat, .int obg, .int otk, .int ovl, .ref orw, .int (nI rmn), .ref oso, .ref osz, .ref oit, .ref oho, .ref ohe, .ref otr, .int (nI tcd), .int own_, .int opt], cin g os 51 (mR stp laws z cnt fogs arms kinds faiths places moved)] := by
  refine mt.of (cc := cX11_setOf) (nL := 5) (ret := (some .int)) (own := RX11) (by decide +kernel) rfl rfl (show ([oh, os] : List Nat) = [oh, os] from rfl) (Nat.le_of_ble_eq_true rfl) (fun p e s m below meth c hf hr hlk _ hk hst hw ls hl => ?_)
  have hx := hf.1
  have hb := hf.2.1
  have hts := hf.2.2.2.2
  have hl : lv_has ls 5 [(0, .ref oh), (1, .int 2)] := hl
  have hinX11 : ∀ w ∈ u_ws RX11 TX11 24, w ∈ wsX11_setOf := fun w h => List.mem_cons_of_mem _ (List.mem_append_right _ h)
  have w_0 : Cond.fieldLink RX11 9 "LightManModel" "s" "[I" ∈ wsX11_setOf := List.mem_of_getElem? (i := 1) rfl
  refine lv_iconst (v := 0) hx hb dX11_setOf_0 (by decide) ?_
  refine lv_istore_n (lv' := [(2, .int 0), (0, .ref oh), (1, .int 2)]) hx hb dX11_setOf_1 rfl hl (by decide) rfl (fun ls hl => ?_)
  refine lv_iconst (v := 0) hx hb dX11_setOf_2 (by decide) ?_
  refine lv_istore_n (lv' := [(3, .int 0), (2, .int 0), (0, .ref oh), (1, .int 2)]) hx hb dX11_setOf_3 rfl hl (by decide) rfl (fun ls hl => ?_)
  have lp_4_0 : ∀ (fu k : Nat), k ≤ cnt → cnt + 1 ≤ k + fu → ∀ (H : Heap) (locs : List Loc), hv g (va_I [cob oh 11 [.ref os, .ref ok, .ref ol, .ref ord, .int isk, .ref odd, .ref otp, .int (nI tpd), .ref olt, .int oat, .int obg, .int otk, .int ovl, .ref orw, .int (nI rmn), .ref oso, .ref osz, .ref oit, .ref oho, .ref ohe, .ref otr, .int (nI tcd), .int own_, .int opt], cin g os 51 (mR stp laws z cnt fogs arms kinds faiths places moved)]) s H locs [cob oh 11 [.ref os, .ref ok, .ref ol, .ref ord, .int isk, .ref odd, .ref otp, .int (nI tpd), .ref olt, .int oat, .int obg, .int otk, .int ovl, .ref orw, .int (nI rmn), .ref oso, .ref osz, .ref oit, .ref oho, .ref ohe, .ref otr, .int (nI tcd), .int own_, .int opt], cin g os 51 (mR stp laws z cnt fogs arms kinds faiths places moved)] → ∀ ls : Array Slot, lv_has ls 5 [(3, .int (nI k)), (2, .int (setTo (snows laws fogs arms stp kinds places) k)), (0, .ref oh), (1, .int 2)] → W p l e rmX11_setOf2 s m ([.ref oh, .int 2] : List Value).toArray below meth c H locs 0 0 (MQ below (mtQ g [cob oh 11 [.ref os, .ref ok, .ref ol, .ref ord, .int isk, .ref odd, .ref otp, .int (nI tpd), .ref olt, .int oat, .int obg, .int otk, .int ovl, .ref orw, .int (nI rmn), .ref oso, .ref osz, .ref oit, .ref oho, .ref ohe, .ref otr, .int (nI tcd), .int own_, .int opt], cin g os 51 (mR stp laws z cnt fogs arms kinds faiths places moved)] (some (.int (setTo (snows laws fogs arms stp kinds places) cnt))) [cob oh 11 [.ref os, .ref ok, .ref ol, .ref ord, .int isk, .ref odd, .ref otp, .int (nI tpd), .ref olt, .int oat, .int obg, .int otk, .int ovl, .ref orw, .int (nI rmn), .ref oso, .ref osz, .ref oit, .ref oho, .ref ohe, .ref otr, .int (nI tcd), .int own_, .int opt], cin g os 51 (mR stp laws z cnt fogs arms kinds faiths places moved)]) ([.ref oh, .int 2] : List Value).toArray s 0 0 (va_I [cob oh 11 [.ref os, .ref ok, .ref ol, .ref ord, .int isk, .ref odd, .ref otp, .int (nI tpd), .ref olt, .int oat, .int obg, .int otk, .int ovl, .ref orw, .int (nI rmn), .ref oso, .ref osz, .ref oit, .ref oho, .ref ohe, .ref otr, .int (nI tcd), .int own_, .int opt], cin g os 51 (mR stp laws z cnt fogs arms kinds faiths places moved)])) (F0 m 4 ls []) := by
    intro fu
    induction fu with
    | zero =>
      intro k h1 h2
      exact absurd h2 (by omega)
    | succ fu ih_4 =>
      intro k hk1_4 hk2_4 H locs hw ls hl
      refine lv_iload_n hx hb dX11_setOf_4 rfl (lv_at hl 0 rfl) ?_
      refine lv_aload_n hx hb dX11_setOf_5 rfl (lv_at hl 2 rfl) ?_
      refine rg hf hk hw hinX11 0 rfl rfl 0 (by decide) w_0 rfl dX11_setOf_6 ?_
      refine lv_bipush (v := 6) hx hb dX11_setOf_9 (by decide) ?_
      refine rij hf hk hw 1 rfl (j := 6) (vp_in_nI (n := 6) (by omega) (by omega)) (rfl) dX11_setOf_11 ?_
      refine lv_tope (y := nI cnt) (rfl) ?_
      refine lv_icmp_ge (tgt := 72) hx hb dX11_setOf_12 (by decide) (fun c_2 => ?_) (fun c_2 => ?_)
      · have hkE : k = cnt := Nat.le_antisymm hk1_4 ((nI_leI (by omega) (by omega)).mp c_2)
        refine lv_iload_n hx hb dX11_setOf_72 rfl (lv_at hl 1 rfl) ?_
        exact re_i hf hr hlk hw (by rw [hkE]) (rfl) dX11_setOf_73
      · have hkE : k < cnt := Nat.not_le.mp (fun h => c_2 ((nI_leI (by omega) (by omega)).mpr h))
        refine lv_iload_n hx hb dX11_setOf_15 rfl (lv_at hl 3 rfl) ?_
        refine lv_iconst (v := 1) hx hb dX11_setOf_16 (by decide) ?_
        refine lv_icmp_ne (tgt := 28) hx hb dX11_setOf_17 (by decide) (fun _ => ?_) (fun q => absurd q (by decide))
        refine lv_aload_n hx hb dX11_setOf_28 rfl (lv_at hl 2 rfl) ?_
        refine lv_iload_n hx hb dX11_setOf_29 rfl (lv_at hl 0 rfl) ?_
        refine mcV hf hk hst hw (c_X11_isThrough l g oh os ok ol ord odd otp olt orw oso osz oit oho ohe otr stp laws z cnt fogs arms kinds faiths places moved isk tpd oat obg otk ovl rmn tcd own_ opt k (by omega) (hpl k hkE)) (cwV 1 hts gX11_setOf_X11_isThrough rfl rfl rfl hdV_X11_isThrough ⟨Nat.le_of_ble_eq_true rfl, Nat.le_of_ble_eq_true rfl⟩) [0, 1] rfl rfl 0 rfl rfl rfl hl.1 rfl (Nat.le_of_ble_eq_true rfl) dX11_setOf_30 ⟨Nat.zero_le _, Nat.zero_le _⟩ (W' := [cob oh 11 [.ref os, .ref ok, .ref ol, .ref ord, .int isk, .ref odd, .ref otp, .int (nI tpd), .ref olt, .int oat, .int obg, .int otk, .int ovl, .ref orw, .int (nI rmn), .ref oso, .ref osz, .ref oit, .ref oho, .ref ohe, .ref otr, .int (nI tcd), .int own_, .int opt], cin g os 51 (mR stp laws z cnt fogs arms kinds faiths places moved)]) rfl (fun H locs hw => ?_)
        refine lv_if_ne (tgt := 48) hx hb dX11_setOf_33 (by decide) (fun c_3 => ?_) (fun c_3 => ?_)
        · have hq : (snows laws fogs arms stp kinds places) k = 0 := if_neg c_3
          refine lv_iconst (v := 0) hx hb dX11_setOf_48 (by decide) ?_
          refine lv_istore (lv' := [(4, .int 0), (3, .int (nI k)), (2, .int (setTo (snows laws fogs arms stp kinds places) k)), (0, .ref oh), (1, .int 2)]) hx hb dX11_setOf_49 hl (by decide) rfl (fun ls hl => ?_)
          refine lv_iload_n hx hb dX11_setOf_51 rfl (lv_at hl 2 rfl) ?_
          refine lv_iload hx hb dX11_setOf_52 (lv_at hl 0 rfl) ?_
          refine lv_if_eq (tgt := 63) hx hb dX11_setOf_54 (by decide) (fun _ => ?_) (fun q => absurd (by decide) q)
          refine lv_iconst (v := 0) hx hb dX11_setOf_63 (by decide) ?_
          refine lv_ior hx hb dX11_setOf_64 ?_
          refine lv_istore_n (lv' := [(2, .int ((setTo (snows laws fogs arms stp kinds places) k) ||| 0)), (4, .int 0), (3, .int (nI k)), (0, .ref oh), (1, .int 2)]) hx hb dX11_setOf_65 rfl hl (by decide) rfl (fun ls hl => ?_)
          refine lv_iinc (v := nI (k + 1)) (lv' := [(3, .int (nI (k + 1))), (2, .int ((setTo (snows laws fogs arms stp kinds places) k) ||| 0)), (4, .int 0), (0, .ref oh), (1, .int 2)]) hx hb dX11_setOf_66 hl (k := 2) rfl (nI_1 _) (by decide) rfl (fun ls hl => ?_)
          refine lv_goto (tgt := 4) hx hb dX11_setOf_69 (by decide) ?_
          have e_1 : (setTo (snows laws fogs arms stp kinds places) k) ||| 0 = setTo (snows laws fogs arms stp kinds places) (k + 1) := by rw [or0]; exact (if_pos hq).symm
          rw [e_1] at hl
          exact ih_4 (k + 1) (by omega) (by omega) _ _ hw _ (lv_sub hl [0, 1, 3, 4] rfl)
        · have hth := c_3
          refine lv_aload_n hx hb dX11_setOf_36 rfl (lv_at hl 2 rfl) ?_
          refine lv_iload_n hx hb dX11_setOf_37 rfl (lv_at hl 0 rfl) ?_
          refine mcV hf hk hst hw (c_X11_doesSee l g oh os ok ol ord odd otp olt orw oso osz oit oho ohe otr stp laws z cnt fogs arms kinds faiths places moved isk tpd oat obg otk ovl rmn tcd own_ opt k (by omega) (by omega)) (cwV 1 hts gX11_setOf_X11_doesSee rfl rfl rfl hdV_X11_doesSee ⟨Nat.le_of_ble_eq_true rfl, Nat.le_of_ble_eq_true rfl⟩) [0, 1] rfl rfl 0 rfl rfl rfl hl.1 rfl (Nat.le_of_ble_eq_true rfl) dX11_setOf_38 ⟨Nat.zero_le _, Nat.zero_le _⟩ (W' := [cob oh 11 [.ref os, .ref ok, .ref ol, .ref ord, .int isk, .ref odd, .ref otp, .int (nI tpd), .ref olt, .int oat, .int obg, .int otk, .int ovl, .ref orw, .int (nI rmn), .ref oso, .ref osz, .ref oit, .ref oho, .ref ohe, .ref otr, .int (nI tcd), .int own_, .int opt], cin g os 51 (mR stp laws z cnt fogs arms kinds faiths places moved)]) rfl (fun H locs hw => ?_)
          refine lv_if_eq (tgt := 48) hx hb dX11_setOf_41 (by decide) (fun c_4 => ?_) (fun c_4 => ?_)
          · have hq : (snows laws fogs arms stp kinds places) k = 0 := (if_pos hth).trans c_4
            refine lv_iconst (v := 0) hx hb dX11_setOf_48 (by decide) ?_
            refine lv_istore (lv' := [(4, .int 0), (3, .int (nI k)), (2, .int (setTo (snows laws fogs arms stp kinds places) k)), (0, .ref oh), (1, .int 2)]) hx hb dX11_setOf_49 hl (by decide) rfl (fun ls hl => ?_)
            refine lv_iload_n hx hb dX11_setOf_51 rfl (lv_at hl 2 rfl) ?_
            refine lv_iload hx hb dX11_setOf_52 (lv_at hl 0 rfl) ?_
            refine lv_if_eq (tgt := 63) hx hb dX11_setOf_54 (by decide) (fun _ => ?_) (fun q => absurd (by decide) q)
            refine lv_iconst (v := 0) hx hb dX11_setOf_63 (by decide) ?_
            refine lv_ior hx hb dX11_setOf_64 ?_
            refine lv_istore_n (lv' := [(2, .int ((setTo (snows laws fogs arms stp kinds places) k) ||| 0)), (4, .int 0), (3, .int (nI k)), (0, .ref oh), (1, .int 2)]) hx hb dX11_setOf_65 rfl hl (by decide) rfl (fun ls hl => ?_)
            refine lv_iinc (v := nI (k + 1)) (lv' := [(3, .int (nI (k + 1))), (2, .int ((setTo (snows laws fogs arms stp kinds places) k) ||| 0)), (4, .int 0), (0, .ref oh), (1, .int 2)]) hx hb dX11_setOf_66 hl (k := 2) rfl (nI_1 _) (by decide) rfl (fun ls hl => ?_)
            refine lv_goto (tgt := 4) hx hb dX11_setOf_69 (by decide) ?_
            have e_1 : (setTo (snows laws fogs arms stp kinds places) k) ||| 0 = setTo (snows laws fogs arms stp kinds places) (k + 1) := by rw [or0]; exact (if_pos hq).symm
            rw [e_1] at hl
            exact ih_4 (k + 1) (by omega) (by omega) _ _ hw _ (lv_sub hl [0, 1, 3, 4] rfl)
          · have hq : ¬ (snows laws fogs arms stp kinds places) k = 0 := fun h => c_4 ((if_pos hth).symm.trans h)
            refine lv_iconst (v := 1) hx hb dX11_setOf_44 (by decide) ?_
            refine lv_goto (tgt := 49) hx hb dX11_setOf_45 (by decide) ?_
            refine lv_istore (lv' := [(4, .int 1), (3, .int (nI k)), (2, .int (setTo (snows laws fogs arms stp kinds places) k)), (0, .ref oh), (1, .int 2)]) hx hb dX11_setOf_49 hl (by decide) rfl (fun ls hl => ?_)
            refine lv_iload_n hx hb dX11_setOf_51 rfl (lv_at hl 2 rfl) ?_
            refine lv_iload hx hb dX11_setOf_52 (lv_at hl 0 rfl) ?_
            refine lv_if_eq (tgt := 63) hx hb dX11_setOf_54 (by decide) (fun q => absurd q (by decide)) (fun _ => ?_)
            refine lv_iconst (v := 1) hx hb dX11_setOf_57 (by decide) ?_
            refine lv_iload_n hx hb dX11_setOf_58 rfl (lv_at hl 1 rfl) ?_
            refine lv_ishl hx hb dX11_setOf_59 ?_
            refine lv_goto (tgt := 64) hx hb dX11_setOf_60 (by decide) ?_
            refine lv_ior hx hb dX11_setOf_64 ?_
            refine lv_istore_n (lv' := [(2, .int ((setTo (snows laws fogs arms stp kinds places) k) ||| (1 <<< ((nI k) &&& 31)))), (4, .int 1), (3, .int (nI k)), (0, .ref oh), (1, .int 2)]) hx hb dX11_setOf_65 rfl hl (by decide) rfl (fun ls hl => ?_)
            refine lv_iinc (v := nI (k + 1)) (lv' := [(3, .int (nI (k + 1))), (2, .int ((setTo (snows laws fogs arms stp kinds places) k) ||| (1 <<< ((nI k) &&& 31)))), (4, .int 1), (0, .ref oh), (1, .int 2)]) hx hb dX11_setOf_66 hl (k := 2) rfl (nI_1 _) (by decide) rfl (fun ls hl => ?_)
            refine lv_goto (tgt := 4) hx hb dX11_setOf_69 (by decide) ?_
            have e_1 : (setTo (snows laws fogs arms stp kinds places) k) ||| (1 <<< ((nI k) &&& 31)) = setTo (snows laws fogs arms stp kinds places) (k + 1) := (if_neg hq).symm
            rw [e_1] at hl
            exact ih_4 (k + 1) (by omega) (by omega) _ _ hw _ (lv_sub hl [0, 1, 3, 4] rfl)
  exact lp_4_0 (cnt + 1) 0 (by omega) (by omega) _ _ hw _ (lv_sub hl [0, 1, 2, 3] rfl)
abbrev rmX11_ones : Room := { frames := 0, cells := 0, slots := 0, locals := 0 }
set_option maxHeartbeats 4000000 in
set_option maxRecDepth 100000 in
theorem c_X11_ones (l : Launch) (g : GG) (x : Int32) (hx2 : x = nI (ix x) ∧ ix x < 256) : mt l g yX11_ones wsX11_ones rmX11_ones [.int x] [] (some (.int (bcF x))) [] := by
  refine mt.of (cc := cX11_ones) (nL := 3) (ret := (some .int)) (own := RX11) (by decide +kernel) rfl rfl (show ([] : List Nat) = [] from rfl) (Nat.le_of_ble_eq_true rfl) (fun p e s m below meth c hf hr hlk _ hk hst hw ls hl => ?_)
  have hx := hf.1
  have hb := hf.2.1
  have hts := hf.2.2.2.2
  have hl : lv_has ls 3 [(0, .int x)] := hl
  have hO := onK_ok (ix x) hx2.2
  rw [← hx2.1] at hO
  obtain ⟨⟨ho1, ho2, ho3⟩, ho4⟩ := hO
  refine lv_iconst (v := 0) hx hb dX11_ones_0 (by decide) ?_
  refine lv_istore_n (lv' := [(1, .int 0), (0, .int x)]) hx hb dX11_ones_1 rfl hl (by decide) rfl (fun ls hl => ?_)
  refine lv_iload_n hx hb dX11_ones_2 rfl (lv_at hl 1 rfl) ?_
  refine lv_istore_n (lv' := [(2, .int x), (1, .int 0), (0, .int x)]) hx hb dX11_ones_3 rfl hl (by decide) rfl (fun ls hl => ?_)
  have lp_4_0 : ∀ (fu k : Nat), k ≤ (onK (ix x)) → (onK (ix x)) + 1 ≤ k + fu → ∀ (H : Heap) (locs : List Loc), hv g (va_I []) s H locs [] → ∀ ls : Array Slot, lv_has ls 3 [(2, .int (onS x k)), (1, .int (nI k)), (0, .int x)] → W p l e rmX11_ones s m ([.int x] : List Value).toArray below meth c H locs 0 0 (MQ below (mtQ g [] (some (.int (bcF x))) []) ([.int x] : List Value).toArray s 0 0 (va_I [])) (F0 m 4 ls []) := by
    intro fu
    induction fu with
    | zero =>
      intro k h1 h2
      exact absurd h2 (by omega)
    | succ fu ih_4 =>
      intro k hk1_4 hk2_4 H locs hw ls hl
      refine lv_iload_n hx hb dX11_ones_4 rfl (lv_at hl 0 rfl) ?_
      refine lv_if_eq (tgt := 20) hx hb dX11_ones_5 (by decide) (fun c_2 => ?_) (fun c_2 => ?_)
      · have hkE : k = onK (ix x) := by rcases Nat.lt_or_ge k (onK (ix x)) with q | q; exact absurd c_2 (ho4 k (by omega) q); exact Nat.le_antisymm hk1_4 q
        refine lv_iload_n hx hb dX11_ones_20 rfl (lv_at hl 1 rfl) ?_
        exact re_i hf hr hlk hw (by rw [hkE, ho2]) (rfl) dX11_ones_21
      · have hkE : k < onK (ix x) := by rcases Nat.lt_or_ge k (onK (ix x)) with q | q; exact q; exact absurd (by rw [Nat.le_antisymm hk1_4 q]; exact ho1) c_2
        refine lv_iinc (v := nI (k + 1)) (lv' := [(1, .int (nI (k + 1))), (2, .int (onS x k)), (0, .int x)]) hx hb dX11_ones_8 hl (k := 1) rfl (nI_1 _) (by decide) rfl (fun ls hl => ?_)
        refine lv_iload_n hx hb dX11_ones_11 rfl (lv_at hl 1 rfl) ?_
        refine lv_iload_n hx hb dX11_ones_12 rfl (lv_at hl 1 rfl) ?_
        refine lv_iconst (v := 1) hx hb dX11_ones_13 (by decide) ?_
        refine lv_isub hx hb dX11_ones_14 ?_
        refine lv_iand hx hb dX11_ones_15 ?_
        refine lv_istore_n (lv' := [(2, .int ((onS x k) &&& ((onS x k) - 1))), (1, .int (nI (k + 1))), (0, .int x)]) hx hb dX11_ones_16 rfl hl (by decide) rfl (fun ls hl => ?_)
        refine lv_goto (tgt := 4) hx hb dX11_ones_17 (by decide) ?_
        have e_1 : (onS x k) &&& ((onS x k) - 1) = onS x (k + 1) := rfl
        rw [e_1] at hl
        exact ih_4 (k + 1) (by omega) (by omega) _ _ hw _ (lv_sub hl [0, 1, 2] rfl)
  exact lp_4_0 ((onK (ix x)) + 1) 0 (by omega) (by omega) _ _ hw _ (lv_sub hl [0, 1, 2] rfl)
abbrev rmX11_sumOf : Room := { frames := 1, cells := 0, slots := 0, locals := 22 }
set_option maxHeartbeats 4000000 in
set_option maxRecDepth 100000 in
theorem c_X11_sumOf1 (l : Launch) (g : GG) (oh : Nat) (os : Nat) (ok : Nat) (ol : Nat) (ord : Nat) (odd : Nat) (otp : Nat) (olt : Nat) (orw : Nat) (oso : Nat) (osz : Nat) (oit : Nat) (oho : Nat) (ohe : Nat) (otr : Nat) (stp : Nat) (laws : Nat → Int32) (z : Int32) (cnt : Nat) (fogs : Nat → Int32) (arms : Nat → Int32) (kinds : Nat → Int32) (faiths : Nat → Int32) (places : Nat → Int32) (moved : Nat → Int32) (isk : Int32) (tpd : Nat) (oat : Int32) (obg : Int32) (otk : Int32) (ovl : Int32) (rmn : Nat) (tcd : Nat) (own_ : Int32) (opt : Int32) (hc8 : cnt ≤ 8) : mt l g yX11_sumOf wsX11_sumOf rmX11_sumOf [.ref oh, .int 1] [cob oh 11 [.ref os, .ref ok, .ref ol, .ref ord, .int isk, .ref odd, .ref otp, .int (nI tpd), .ref olt, .int oat, .int obg, .int otk, .int ovl, .ref orw, .int (nI rmn), .ref oso, .ref osz, .ref oit, .ref oho, .ref ohe, .ref otr, .int (nI tcd), .int own_, .int opt], cin g os 51 (mR stp laws z cnt fogs arms kinds faiths places moved)] (some (.int (sumTo faiths cnt))) [cob oh 11 [.ref os, .ref ok, .ref ol, .ref ord, .int isk, .ref odd, .ref otp, .int (nI tpd), .ref olt, .int oat, .int obg, .int otk, .int ovl, .ref orw, .int (nI rmn), .ref oso, .ref osz, .ref oit, .ref oho, .ref ohe, .ref otr, .int (nI tcd), .int own_, .int opt], cin g os 51 (mR stp laws z cnt fogs arms kinds faiths places moved)] := by
  refine mt.of (cc := cX11_sumOf) (nL := 4) (ret := (some .int)) (own := RX11) (by decide +kernel) rfl rfl (show ([oh, os] : List Nat) = [oh, os] from rfl) (Nat.le_of_ble_eq_true rfl) (fun p e s m below meth c hf hr hlk _ hk hst hw ls hl => ?_)
  have hx := hf.1
  have hb := hf.2.1
  have hts := hf.2.2.2.2
  have hl : lv_has ls 4 [(0, .ref oh), (1, .int 1)] := hl
  have hinX11 : ∀ w ∈ u_ws RX11 TX11 24, w ∈ wsX11_sumOf := fun w h => List.mem_cons_of_mem _ (List.mem_append_right _ h)
  have w_0 : Cond.fieldLink RX11 9 "LightManModel" "s" "[I" ∈ wsX11_sumOf := List.mem_of_getElem? (i := 1) rfl
  refine lv_iconst (v := 0) hx hb dX11_sumOf_0 (by decide) ?_
  refine lv_istore_n (lv' := [(2, .int 0), (0, .ref oh), (1, .int 1)]) hx hb dX11_sumOf_1 rfl hl (by decide) rfl (fun ls hl => ?_)
  refine lv_iconst (v := 0) hx hb dX11_sumOf_2 (by decide) ?_
  refine lv_istore_n (lv' := [(3, .int 0), (2, .int 0), (0, .ref oh), (1, .int 1)]) hx hb dX11_sumOf_3 rfl hl (by decide) rfl (fun ls hl => ?_)
  have lp_4_0 : ∀ (fu k : Nat), k ≤ cnt → cnt + 1 ≤ k + fu → ∀ (H : Heap) (locs : List Loc), hv g (va_I [cob oh 11 [.ref os, .ref ok, .ref ol, .ref ord, .int isk, .ref odd, .ref otp, .int (nI tpd), .ref olt, .int oat, .int obg, .int otk, .int ovl, .ref orw, .int (nI rmn), .ref oso, .ref osz, .ref oit, .ref oho, .ref ohe, .ref otr, .int (nI tcd), .int own_, .int opt], cin g os 51 (mR stp laws z cnt fogs arms kinds faiths places moved)]) s H locs [cob oh 11 [.ref os, .ref ok, .ref ol, .ref ord, .int isk, .ref odd, .ref otp, .int (nI tpd), .ref olt, .int oat, .int obg, .int otk, .int ovl, .ref orw, .int (nI rmn), .ref oso, .ref osz, .ref oit, .ref oho, .ref ohe, .ref otr, .int (nI tcd), .int own_, .int opt], cin g os 51 (mR stp laws z cnt fogs arms kinds faiths places moved)] → ∀ ls : Array Slot, lv_has ls 4 [(3, .int (nI k)), (2, .int (sumTo faiths k)), (0, .ref oh), (1, .int 1)] → W p l e rmX11_sumOf s m ([.ref oh, .int 1] : List Value).toArray below meth c H locs 0 0 (MQ below (mtQ g [cob oh 11 [.ref os, .ref ok, .ref ol, .ref ord, .int isk, .ref odd, .ref otp, .int (nI tpd), .ref olt, .int oat, .int obg, .int otk, .int ovl, .ref orw, .int (nI rmn), .ref oso, .ref osz, .ref oit, .ref oho, .ref ohe, .ref otr, .int (nI tcd), .int own_, .int opt], cin g os 51 (mR stp laws z cnt fogs arms kinds faiths places moved)] (some (.int (sumTo faiths cnt))) [cob oh 11 [.ref os, .ref ok, .ref ol, .ref ord, .int isk, .ref odd, .ref otp, .int (nI tpd), .ref olt, .int oat, .int obg, .int otk, .int ovl, .ref orw, .int (nI rmn), .ref oso, .ref osz, .ref oit, .ref oho, .ref ohe, .ref otr, .int (nI tcd), .int own_, .int opt], cin g os 51 (mR stp laws z cnt fogs arms kinds faiths places moved)]) ([.ref oh, .int 1] : List Value).toArray s 0 0 (va_I [cob oh 11 [.ref os, .ref ok, .ref ol, .ref ord, .int isk, .ref odd, .ref otp, .int (nI tpd), .ref olt, .int oat, .int obg, .int otk, .int ovl, .ref orw, .int (nI rmn), .ref oso, .ref osz, .ref oit, .ref oho, .ref ohe, .ref otr, .int (nI tcd), .int own_, .int opt], cin g os 51 (mR stp laws z cnt fogs arms kinds faiths places moved)])) (F0 m 4 ls []) := by
    intro fu
    induction fu with
    | zero =>
      intro k h1 h2
      exact absurd h2 (by omega)
    | succ fu ih_4 =>
      intro k hk1_4 hk2_4 H locs hw ls hl
      refine lv_iload_n hx hb dX11_sumOf_4 rfl (lv_at hl 0 rfl) ?_
      refine lv_aload_n hx hb dX11_sumOf_5 rfl (lv_at hl 2 rfl) ?_
      refine rg hf hk hw hinX11 0 rfl rfl 0 (by decide) w_0 rfl dX11_sumOf_6 ?_
      refine lv_bipush (v := 6) hx hb dX11_sumOf_9 (by decide) ?_
      refine rij hf hk hw 1 rfl (j := 6) (vp_in_nI (n := 6) (by omega) (by omega)) (rfl) dX11_sumOf_11 ?_
      refine lv_tope (y := nI cnt) (rfl) ?_
      refine lv_icmp_ge (tgt := 30) hx hb dX11_sumOf_12 (by decide) (fun c_2 => ?_) (fun c_2 => ?_)
      · have hkE : k = cnt := Nat.le_antisymm hk1_4 ((nI_leI (by omega) (by omega)).mp c_2)
        refine lv_iload_n hx hb dX11_sumOf_30 rfl (lv_at hl 1 rfl) ?_
        exact re_i hf hr hlk hw (by rw [hkE]) (rfl) dX11_sumOf_31
      · have hkE : k < cnt := Nat.not_le.mp (fun h => c_2 ((nI_leI (by omega) (by omega)).mpr h))
        refine lv_iload_n hx hb dX11_sumOf_15 rfl (lv_at hl 1 rfl) ?_
        refine lv_aload_n hx hb dX11_sumOf_16 rfl (lv_at hl 2 rfl) ?_
        refine lv_iload_n hx hb dX11_sumOf_17 rfl (lv_at hl 0 rfl) ?_
        refine lv_iload_n hx hb dX11_sumOf_18 rfl (lv_at hl 3 rfl) ?_
        refine mcV hf hk hst hw (c_X11_get1 l g oh os ok ol ord odd otp olt orw oso osz oit oho ohe otr stp laws z cnt fogs arms kinds faiths places moved isk tpd oat obg otk ovl rmn tcd own_ opt k (by omega)) (cwV 2 hts gX11_sumOf_X11_get rfl rfl rfl hdV_X11_get ⟨Nat.le_of_ble_eq_true rfl, Nat.le_of_ble_eq_true rfl⟩) [0, 1] rfl rfl 0 rfl rfl rfl hl.1 rfl (Nat.le_of_ble_eq_true rfl) dX11_sumOf_19 ⟨Nat.zero_le _, Nat.zero_le _⟩ (W' := [cob oh 11 [.ref os, .ref ok, .ref ol, .ref ord, .int isk, .ref odd, .ref otp, .int (nI tpd), .ref olt, .int oat, .int obg, .int otk, .int ovl, .ref orw, .int (nI rmn), .ref oso, .ref osz, .ref oit, .ref oho, .ref ohe, .ref otr, .int (nI tcd), .int own_, .int opt], cin g os 51 (mR stp laws z cnt fogs arms kinds faiths places moved)]) rfl (fun H locs hw => ?_)
        refine lv_iadd hx hb dX11_sumOf_22 ?_
        refine lv_istore_n (lv' := [(2, .int ((sumTo faiths k) + (faiths k))), (3, .int (nI k)), (0, .ref oh), (1, .int 1)]) hx hb dX11_sumOf_23 rfl hl (by decide) rfl (fun ls hl => ?_)
        refine lv_iinc (v := nI (k + 1)) (lv' := [(3, .int (nI (k + 1))), (2, .int ((sumTo faiths k) + (faiths k))), (0, .ref oh), (1, .int 1)]) hx hb dX11_sumOf_24 hl (k := 1) rfl (nI_1 _) (by decide) rfl (fun ls hl => ?_)
        refine lv_goto (tgt := 4) hx hb dX11_sumOf_27 (by decide) ?_
        have e_1 : (sumTo faiths k) + (faiths k) = sumTo faiths (k + 1) := rfl
        rw [e_1] at hl
        exact ih_4 (k + 1) (by omega) (by omega) _ _ hw _ (lv_sub hl [0, 1, 2, 3] rfl)
  exact lp_4_0 (cnt + 1) 0 (by omega) (by omega) _ _ hw _ (lv_sub hl [0, 1, 2, 3] rfl)
set_option maxHeartbeats 4000000 in
set_option maxRecDepth 100000 in
theorem c_X11_sumOf2 (l : Launch) (g : GG) (oh : Nat) (os : Nat) (ok : Nat) (ol : Nat) (ord : Nat) (odd : Nat) (otp : Nat) (olt : Nat) (orw : Nat) (oso : Nat) (osz : Nat) (oit : Nat) (oho : Nat) (ohe : Nat) (otr : Nat) (stp : Nat) (laws : Nat → Int32) (z : Int32) (cnt : Nat) (fogs : Nat → Int32) (arms : Nat → Int32) (kinds : Nat → Int32) (faiths : Nat → Int32) (places : Nat → Int32) (moved : Nat → Int32) (isk : Int32) (tpd : Nat) (oat : Int32) (obg : Int32) (otk : Int32) (ovl : Int32) (rmn : Nat) (tcd : Nat) (own_ : Int32) (opt : Int32) (hc8 : cnt ≤ 8) : mt l g yX11_sumOf wsX11_sumOf rmX11_sumOf [.ref oh, .int 2] [cob oh 11 [.ref os, .ref ok, .ref ol, .ref ord, .int isk, .ref odd, .ref otp, .int (nI tpd), .ref olt, .int oat, .int obg, .int otk, .int ovl, .ref orw, .int (nI rmn), .ref oso, .ref osz, .ref oit, .ref oho, .ref ohe, .ref otr, .int (nI tcd), .int own_, .int opt], cin g os 51 (mR stp laws z cnt fogs arms kinds faiths places moved)] (some (.int (sumTo places cnt))) [cob oh 11 [.ref os, .ref ok, .ref ol, .ref ord, .int isk, .ref odd, .ref otp, .int (nI tpd), .ref olt, .int oat, .int obg, .int otk, .int ovl, .ref orw, .int (nI rmn), .ref oso, .ref osz, .ref oit, .ref oho, .ref ohe, .ref otr, .int (nI tcd), .int own_, .int opt], cin g os 51 (mR stp laws z cnt fogs arms kinds faiths places moved)] := by
  refine mt.of (cc := cX11_sumOf) (nL := 4) (ret := (some .int)) (own := RX11) (by decide +kernel) rfl rfl (show ([oh, os] : List Nat) = [oh, os] from rfl) (Nat.le_of_ble_eq_true rfl) (fun p e s m below meth c hf hr hlk _ hk hst hw ls hl => ?_)
  have hx := hf.1
  have hb := hf.2.1
  have hts := hf.2.2.2.2
  have hl : lv_has ls 4 [(0, .ref oh), (1, .int 2)] := hl
  have hinX11 : ∀ w ∈ u_ws RX11 TX11 24, w ∈ wsX11_sumOf := fun w h => List.mem_cons_of_mem _ (List.mem_append_right _ h)
  have w_0 : Cond.fieldLink RX11 9 "LightManModel" "s" "[I" ∈ wsX11_sumOf := List.mem_of_getElem? (i := 1) rfl
  refine lv_iconst (v := 0) hx hb dX11_sumOf_0 (by decide) ?_
  refine lv_istore_n (lv' := [(2, .int 0), (0, .ref oh), (1, .int 2)]) hx hb dX11_sumOf_1 rfl hl (by decide) rfl (fun ls hl => ?_)
  refine lv_iconst (v := 0) hx hb dX11_sumOf_2 (by decide) ?_
  refine lv_istore_n (lv' := [(3, .int 0), (2, .int 0), (0, .ref oh), (1, .int 2)]) hx hb dX11_sumOf_3 rfl hl (by decide) rfl (fun ls hl => ?_)
  have lp_4_0 : ∀ (fu k : Nat), k ≤ cnt → cnt + 1 ≤ k + fu → ∀ (H : Heap) (locs : List Loc), hv g (va_I [cob oh 11 [.ref os, .ref ok, .ref ol, .ref ord, .int isk, .ref odd, .ref otp, .int (nI tpd), .ref olt, .int oat, .int obg, .int otk, .int ovl, .ref orw, .int (nI rmn), .ref oso, .ref osz, .ref oit, .ref oho, .ref ohe, .ref otr, .int (nI tcd), .int own_, .int opt], cin g os 51 (mR stp laws z cnt fogs arms kinds faiths places moved)]) s H locs [cob oh 11 [.ref os, .ref ok, .ref ol, .ref ord, .int isk, .ref odd, .ref otp, .int (nI tpd), .ref olt, .int oat, .int obg, .int otk, .int ovl, .ref orw, .int (nI rmn), .ref oso, .ref osz, .ref oit, .ref oho, .ref ohe, .ref otr, .int (nI tcd), .int own_, .int opt], cin g os 51 (mR stp laws z cnt fogs arms kinds faiths places moved)] → ∀ ls : Array Slot, lv_has ls 4 [(3, .int (nI k)), (2, .int (sumTo places k)), (0, .ref oh), (1, .int 2)] → W p l e rmX11_sumOf s m ([.ref oh, .int 2] : List Value).toArray below meth c H locs 0 0 (MQ below (mtQ g [cob oh 11 [.ref os, .ref ok, .ref ol, .ref ord, .int isk, .ref odd, .ref otp, .int (nI tpd), .ref olt, .int oat, .int obg, .int otk, .int ovl, .ref orw, .int (nI rmn), .ref oso, .ref osz, .ref oit, .ref oho, .ref ohe, .ref otr, .int (nI tcd), .int own_, .int opt], cin g os 51 (mR stp laws z cnt fogs arms kinds faiths places moved)] (some (.int (sumTo places cnt))) [cob oh 11 [.ref os, .ref ok, .ref ol, .ref ord, .int isk, .ref odd, .ref otp, .int (nI tpd), .ref olt, .int oat, .int obg, .int otk, .int ovl, .ref orw, .int (nI rmn), .ref oso, .ref osz, .ref oit, .ref oho, .ref ohe, .ref otr, .int (nI tcd), .int own_, .int opt], cin g os 51 (mR stp laws z cnt fogs arms kinds faiths places moved)]) ([.ref oh, .int 2] : List Value).toArray s 0 0 (va_I [cob oh 11 [.ref os, .ref ok, .ref ol, .ref ord, .int isk, .ref odd, .ref otp, .int (nI tpd), .ref olt, .int oat, .int obg, .int otk, .int ovl, .ref orw, .int (nI rmn), .ref oso, .ref osz, .ref oit, .ref oho, .ref ohe, .ref otr, .int (nI tcd), .int own_, .int opt], cin g os 51 (mR stp laws z cnt fogs arms kinds faiths places moved)])) (F0 m 4 ls []) := by
    intro fu
    induction fu with
    | zero =>
      intro k h1 h2
      exact absurd h2 (by omega)
    | succ fu ih_4 =>
      intro k hk1_4 hk2_4 H locs hw ls hl
      refine lv_iload_n hx hb dX11_sumOf_4 rfl (lv_at hl 0 rfl) ?_
      refine lv_aload_n hx hb dX11_sumOf_5 rfl (lv_at hl 2 rfl) ?_
      refine rg hf hk hw hinX11 0 rfl rfl 0 (by decide) w_0 rfl dX11_sumOf_6 ?_
      refine lv_bipush (v := 6) hx hb dX11_sumOf_9 (by decide) ?_
      refine rij hf hk hw 1 rfl (j := 6) (vp_in_nI (n := 6) (by omega) (by omega)) (rfl) dX11_sumOf_11 ?_
      refine lv_tope (y := nI cnt) (rfl) ?_
      refine lv_icmp_ge (tgt := 30) hx hb dX11_sumOf_12 (by decide) (fun c_2 => ?_) (fun c_2 => ?_)
      · have hkE : k = cnt := Nat.le_antisymm hk1_4 ((nI_leI (by omega) (by omega)).mp c_2)
        refine lv_iload_n hx hb dX11_sumOf_30 rfl (lv_at hl 1 rfl) ?_
        exact re_i hf hr hlk hw (by rw [hkE]) (rfl) dX11_sumOf_31
      · have hkE : k < cnt := Nat.not_le.mp (fun h => c_2 ((nI_leI (by omega) (by omega)).mpr h))
        refine lv_iload_n hx hb dX11_sumOf_15 rfl (lv_at hl 1 rfl) ?_
        refine lv_aload_n hx hb dX11_sumOf_16 rfl (lv_at hl 2 rfl) ?_
        refine lv_iload_n hx hb dX11_sumOf_17 rfl (lv_at hl 0 rfl) ?_
        refine lv_iload_n hx hb dX11_sumOf_18 rfl (lv_at hl 3 rfl) ?_
        refine mcV hf hk hst hw (c_X11_get2 l g oh os ok ol ord odd otp olt orw oso osz oit oho ohe otr stp laws z cnt fogs arms kinds faiths places moved isk tpd oat obg otk ovl rmn tcd own_ opt k (by omega)) (cwV 2 hts gX11_sumOf_X11_get rfl rfl rfl hdV_X11_get ⟨Nat.le_of_ble_eq_true rfl, Nat.le_of_ble_eq_true rfl⟩) [0, 1] rfl rfl 0 rfl rfl rfl hl.1 rfl (Nat.le_of_ble_eq_true rfl) dX11_sumOf_19 ⟨Nat.zero_le _, Nat.zero_le _⟩ (W' := [cob oh 11 [.ref os, .ref ok, .ref ol, .ref ord, .int isk, .ref odd, .ref otp, .int (nI tpd), .ref olt, .int oat, .int obg, .int otk, .int ovl, .ref orw, .int (nI rmn), .ref oso, .ref osz, .ref oit, .ref oho, .ref ohe, .ref otr, .int (nI tcd), .int own_, .int opt], cin g os 51 (mR stp laws z cnt fogs arms kinds faiths places moved)]) rfl (fun H locs hw => ?_)
        refine lv_iadd hx hb dX11_sumOf_22 ?_
        refine lv_istore_n (lv' := [(2, .int ((sumTo places k) + (places k))), (3, .int (nI k)), (0, .ref oh), (1, .int 2)]) hx hb dX11_sumOf_23 rfl hl (by decide) rfl (fun ls hl => ?_)
        refine lv_iinc (v := nI (k + 1)) (lv' := [(3, .int (nI (k + 1))), (2, .int ((sumTo places k) + (places k))), (0, .ref oh), (1, .int 2)]) hx hb dX11_sumOf_24 hl (k := 1) rfl (nI_1 _) (by decide) rfl (fun ls hl => ?_)
        refine lv_goto (tgt := 4) hx hb dX11_sumOf_27 (by decide) ?_
        have e_1 : (sumTo places k) + (places k) = sumTo places (k + 1) := rfl
        rw [e_1] at hl
        exact ih_4 (k + 1) (by omega) (by omega) _ _ hw _ (lv_sub hl [0, 1, 2, 3] rfl)
  exact lp_4_0 (cnt + 1) 0 (by omega) (by omega) _ _ hw _ (lv_sub hl [0, 1, 2, 3] rfl)
