-- the law's world: the class's object (269 cells at B), the reference (11 cells at B + 269, and what it makes), the row 'out' at B + 280
def lwA (B : Nat) : Nat → Prop := fun q => B ≤ q
def lcA (B : Nat) : Nat → Prop := fun q => B ≤ q ∧ q < B + 269
def lmA (B : Nat) : Nat → Prop := fun q => B + 269 ≤ q ∧ q ≠ B + 280
abbrev lad (B : Nat) : Nat → Nat := fun k => B + k
theorem lc_w {B q : Nat} (h : lcA B q) : lwA B q := h.1
theorem lm_w {B q : Nat} (h : lmA B q) : lwA B q := Nat.le_trans (Nat.le_add_right _ _) h.1
theorem lm_c {B q : Nat} (h : lmA B q) : ¬ lcA B q := fun z => Nat.not_le.mpr z.2 h.1
theorem lm_o {B : Nat} : ¬ lmA B (B + 280) := fun z => z.2 rfl
theorem lc_o {B : Nat} : ¬ lcA B (B + 280) := fun z => by
  have h : B + 280 < B + 269 := z.2
  omega
theorem lo_w {B : Nat} : lwA B (B + 280) := Nat.le_add_right _ _
def LO (D : va_G) (B : Nat) (cA : Nat → ClassId) (H0 : Heap) (a b : CwS) (fo : Nat → Int64) (H : Heap) (locs : List Loc) : Prop :=
  va_P D vwCl (wd (lad B) 269 (cwc (lad B) cA a)) H ∧ rfP (B + 269) D cA b H ∧ rfD (lmA B) (B + 269) b ∧ va_P D vwCl (outW cA (B + 280) fo) H ∧ va_S (lwA B) H0 H locs ∧ H.size = gR b 101 2
theorem gR_sz (b : CwS) (z c i : Nat) (h : ¬ (c = 101 ∧ i = 2)) : gR (sR b 101 2 z) c i = gR b c i := by rw [gR_sR, if_neg h]
theorem gR_szz (b : CwS) (z : Nat) : gR (sR b 101 2 z) 101 2 = z := by rw [gR_sR, if_pos ⟨rfl, rfl⟩]
/-- the heap has grown, the reference's cells are as they were -/
theorem rf_size {b0 : Nat} {D : va_G} {cA : Nat → ClassId} {A : Nat → Prop} {b : CwS} {H H1 : Heap} {z : Nat} (hP : rfP b0 D cA b H) (hD : rfD A b0 b) (hz : gR b 101 2 ≤ z) (hk : ∀ q : Nat, q < H.size → A q → H1[q]? = H[q]?) : rfP b0 D cA (sR b 101 2 z) H1 ∧ rfD A b0 (sR b 101 2 z) := by
  have r0 : gR (sR b 101 2 z) 101 0 = gR b 101 0 := gR_sz b z 101 0 (by omega)
  have r2 : ∀ i, gR (sR b 101 2 z) 102 i = gR b 102 i := fun i => gR_sz b z 102 i (by omega)
  have r3 : ∀ i, gR (sR b 101 2 z) 103 i = gR b 103 i := fun i => gR_sz b z 103 i (by omega)
  have r1 : ∀ i, gR (sR b 101 2 z) 100 i = gR b 100 i := fun i => gR_sz b z 100 i (by omega)
  have r5 : ∀ i, gR (sR b 101 2 z) 50 i = gR b 50 i := fun i => gR_sz b z 50 i (by omega)
  have rz : gR (sR b 101 2 z) 101 2 = z := gR_szz b z
  obtain ⟨hP1, hP2, hP3⟩ := hP
  obtain ⟨d1, d2, d3, d4, d5, d6, d7, d8⟩ := hD
  refine ⟨⟨fun k hk2 => ?_, fun i j hi hj => ?_, fun a ha => ?_⟩, ?_⟩
  · rw [rfA_congr (st2 := sR b 101 2 z) (st := b) k (fun _ _ _ => rfl) (fun _ _ _ => rfl) r0 r2]
    exact (hP1 k hk2).kept (hk _ (hP1 k hk2).lt (d5 k hk2))
  · rw [r0] at hi
    rw [r2, rfB_congr (st2 := sR b 101 2 z) (st := b) j (fun _ _ _ => rfl) (fun _ _ _ => rfl) (fun _ p _ => r5 _)]
    exact (hP2 i j hi hj).kept (hk _ (hP2 i j hi hj).lt (d6 i j hi hj))
  · rw [r3] at ha
    rw [rfR_congr (st2 := sR b 101 2 z) (st := b) (fun _ => rfl) (r1 a)]
    exact (hP3 a ha).kept (hk _ (hP3 a ha).lt (d7 a ha))
  · unfold rfD
    simp only [r0, r2, r3, rz]
    exact ⟨d1, d2, d3, d4, d5, d6, d7, fun q h => d8 q (Nat.le_trans hz h)⟩
theorem out_1 {cA : Nat → ClassId} {o k : Nat} {fo : Nat → Int64} {x : Nat × va_E} (h : (outW cA o fo)[k]? = some x) : x.1 = o := by
  have hz : k < 1 := (List.getElem?_eq_some_iff.mp h).1
  rw [show k = 0 by omega] at h
  cases h
  rfl
theorem va_S.get {A : Nat → Prop} {H0 H : Heap} {locs : List Loc} (h : va_S A H0 H locs) : ∀ q : Nat, q < H0.size → ¬ A q → H[q]? = H0[q]? := h.2.1
section LAW1
variable {D : va_G} {B : Nat} {cA : Nat → ClassId} {H0 H H1 : Heap} {a a2 b b2 : CwS} {fo fo2 : Nat → Int64} {locs locs1 : List Loc}
theorem LO.S (hO : LO D B cA H0 a b fo H locs) : va_S (lwA B) H0 H locs := hO.2.2.2.2.1
theorem LO.val (hO : LO D B cA H0 a b fo H locs) (hP : va_P D vwCl (wd (lad B) 269 (cwc (lad B) cA a2)) H1) (hPo : va_P D vwCl (outW cA (B + 280) fo2) H1) (hz : H.size ≤ H1.size) (hk : ∀ q : Nat, q < H.size → ¬ (lcA B q ∨ q = B + 280) → H1[q]? = H[q]?) (hS : va_S (lwA B) H0 H1 locs1) : LO D B cA H0 a2 (sR b 101 2 H1.size) fo2 H1 locs1 := by
  obtain ⟨h1, h2, h3, h4, h5, h6⟩ := hO
  obtain ⟨g1, g2⟩ := rf_size (H1 := H1) (z := H1.size) h2 h3 (by rw [← h6]; exact hz) (fun q hq hA => hk q hq (fun z => z.elim (lm_c hA) hA.2))
  exact ⟨hP, g1, g2, hPo, hS, (gR_szz b H1.size).symm⟩
theorem LO.cls (hO : LO D B cA H0 a b fo H locs) (hP : va_P D vwCl (wd (lad B) 269 (cwc (lad B) cA a2)) H1) (hz : H.size ≤ H1.size) (hk : ∀ q : Nat, q < H.size → ¬ lcA B q → H1[q]? = H[q]?) (hS : va_S (lwA B) H0 H1 locs1) : LO D B cA H0 a2 (sR b 101 2 H1.size) fo H1 locs1 := by
  refine hO.val hP (hO.2.2.2.1.kept fun k x hx => ?_) hz (fun q h1 h2 => hk q h1 fun z => h2 (Or.inl z)) hS
  have hlt := (hO.2.2.2.1 k x hx).lt
  rw [out_1 hx] at hlt ⊢
  exact hk _ hlt lc_o
theorem LO.mod (hO : LO D B cA H0 a b fo H locs) {t : State} (hT : rfT D (lmA B) (B + 269) cA b2 t) (ht : t.heap = H1) (hk : ∀ q : Nat, q < H.size → ¬ lmA B q → H1[q]? = H[q]?) (hS : va_S (lwA B) H0 H1 locs1) : LO D B cA H0 a b2 fo H1 locs1 := by
  subst ht
  obtain ⟨h1, h2, h3, h4, h5, h6⟩ := hO
  obtain ⟨t1, t2, t3⟩ := hT
  refine ⟨h1.kept fun k x hx => ?_, t1, t2, h4.kept fun k x hx => ?_, hS, t3⟩
  · have hl := (h1 k x hx).lt
    obtain ⟨hk9, rfl⟩ := wd_at hx
    refine hk _ hl fun z => ?_
    have z1 : B + 269 ≤ B + k := z.1
    omega
  · have hlt := (h4 k x hx).lt
    rw [out_1 hx] at hlt ⊢
    exact hk _ hlt lm_o
end LAW1
theorem cwT.narrow {A A2 : Nat → Prop} {tb0 tb1 : Nat} {U : State} {H : Heap} (h : cwT A tb0 tb1 U H) (hA : ∀ q, A2 q → A q) : cwT A2 tb0 tb1 U H := ⟨h.1.narrow hA, h.2.1.narrow hA, h.2.2.1.narrow hA, h.2.2.2.narrow hA⟩
theorem vEx.narrow {A A2 : Nat → Prop} {sa : Nat} {U : State} (h : vEx A sa U) (hA : ∀ q, A2 q → A q) : vEx A2 sa U := ⟨h.1.narrow hA, h.2.1.narrow hA, h.2.2⟩
/-- what holds of the law's start, and stays -/
def LK (D : va_G) (B : Nat) (cA : Nat → ClassId) (tb0 tb1 sa : Nat) (s : State) : Prop := rfK D cA s ∧ cwT (lwA B) tb0 tb1 s s.heap ∧ cwN s ∧ vEx (lwA B) sa s
section LAW2
variable {D : va_G} {B : Nat} {cA : Nat → ClassId} {tb0 tb1 sa : Nat} {s U : State} {H : Heap} {a b : CwS} {fo : Nat → Int64} {locs : List Loc} {As : List Value}
theorem lc_K (hK : LK D B cA tb0 tb1 sa s) (hS : va_S (lwA B) s.heap H locs) (hU : U.heap = H) (hW : s.WarmedH U.vm) : cwK D (lcA B) (lad B) cA tb0 tb1 U :=
  ⟨va_K.moved hW.alike (hK.1.1.sub (tys' := cwTy cA) [0, 1, 2, 3, 4, 5] rfl), ⟨fun i j _ _ h => Nat.add_left_cancel h, fun k hk => ⟨Nat.le_add_right _ _, Nat.add_lt_add_left hk B⟩⟩, (hK.2.1.moved hW.alike (fun q h1 h2 => by rw [hU]; exact hS.get q h1 h2)).narrow (fun _ h => lc_w h), hK.2.2.1.warm hW⟩
theorem lc_pre (hK : LK D B cA tb0 tb1 sa s) (hO : LO D B cA s.heap a b fo H locs) : PreV s H RX7 (lad B 0) (va_Pc (.ref (lad B 0) :: As) (cwU D (lcA B) (lad B) cA tb0 tb1 a)) As :=
  ⟨cwU_blind, va_recv (q := (RX7, TX7, 3)) (ci := 7) hK.1.1 hO.1 rfl (wd_get (by decide) cc_CW), fun _ hU hW => ⟨rfl, by rw [hU]; exact hO.1, lc_K hK hO.S hU hW⟩⟩
theorem lm_pre (hK : LK D B cA tb0 tb1 sa s) (hO : LO D B cA s.heap a b fo H locs) : PreV s H RX9 (B + 269) (va_Pc (.ref (B + 269) :: As) (rfU D (lmA B) (B + 269) cA b)) As :=
  ⟨rfU_blind, va_recv (q := (RX9, TX9, 19)) (ci := 9) (q0 := 0) hK.1.1 (va_P.one (hO.2.1.1 0 (by decide))) rfl rfl, fun _ hU hW => ⟨rfl, by rw [hU]; exact hO.2.1, hO.2.2.1, by rw [hU]; exact hO.2.2.2.2.2, hK.1.warm hW⟩⟩
theorem lv_pre {x : Int32} (hK : LK D B cA tb0 tb1 sa s) (hO : LO D B cA s.heap a b fo H locs) : PreS s H (va_Pc [.ref (lad B 0), .int x, .ref (B + 280)] (lvU D (lcA B) (lad B) cA tb0 tb1 sa (B + 280) a fo)) [.ref (lad B 0), .int x, .ref (B + 280)] :=
  ⟨fun ar V g mk q => ⟨q.1, (cwU_blind (av := [.ref (lad B 0), .int x, .ref (B + 280)]) ar V g mk ⟨q.1, q.2.1⟩).2, q.2.2.1.calling g mk ar, q.2.2.2.1, q.2.2.2.2⟩, fun V hU hW => ⟨rfl, ⟨by rw [hU]; exact hO.1, lc_K hK hO.S hU hW⟩, (hK.2.2.2.at hO.S hU hW).narrow (fun _ h => lc_w h), by rw [hU]; exact hO.2.2.2.1, lc_o⟩⟩
end LAW2
section LAW3
variable {p : Program} {l : Launch} {e : Env} {R : Room} {s : State} {m : MethodId} {args : Array Value} {below : List Frame} {meth : Method} {c : Code} {H : Heap} {locs : List Loc} {cells slots mc ms : Nat} {Q : State → Prop}
variable {pc : Nat} {ls : Array Slot} {rest st0 : List Value} {D : va_G} {B : Nat} {cA : Nat → ClassId} {tb0 tb1 : Nat} {a a2 b b2 : CwS} {fo : Nat → Int64} {ar : Array Value}
theorem lc_calli {r : Int32} (hr : va_Run p l e R s m args below meth c H locs cells slots 0 0 (F0 m pc ls st0) rest (cwQi D (lcA B) (lad B) cA tb0 tb1 r a2 ar) (lcA B)) (hO : LO D B cA s.heap a b fo H locs) (kk : ∀ (z : Nat) (H1 : Heap) (locs1 : List Loc), LO D B cA s.heap a2 (sR b 101 2 z) fo H1 locs1 → W p l e R s m args below meth c H1 locs1 cells slots Q (F0 m (pc + 3) ls (.int r :: rest))) : W p l e R s m args below meth c H locs cells slots Q (F0 m pc ls st0) :=
  va_calli hr hO.S (fun _ _ h => lc_w h) (fun _ h => lc_w h) (fun r' u t H1 locs1 ht hvm hp hB hz hk hS => by subst hp; subst ht; exact kk _ _ locs1 (hO.cls hB hz hk hS))
theorem lc_calll {r : Int64} (hr : va_Run p l e R s m args below meth c H locs cells slots 0 0 (F0 m pc ls st0) rest (cwQl D (lcA B) (lad B) cA tb0 tb1 r a2 ar) (lcA B)) (hO : LO D B cA s.heap a b fo H locs) (kk : ∀ (z : Nat) (H1 : Heap) (locs1 : List Loc), LO D B cA s.heap a2 (sR b 101 2 z) fo H1 locs1 → W p l e R s m args below meth c H1 locs1 cells slots Q (F0 m (pc + 3) ls (.long r :: rest))) : W p l e R s m args below meth c H locs cells slots Q (F0 m pc ls st0) :=
  va_calll hr hO.S (fun _ _ h => lc_w h) (fun _ h => lc_w h) (fun r' u t H1 locs1 ht hvm hp hB hz hk hS => by subst hp; subst ht; exact kk _ _ locs1 (hO.cls hB hz hk hS))
theorem lm_calli {r : Int32} (hr : va_Run p l e R s m args below meth c H locs cells slots mc ms (F0 m pc ls st0) rest (rfQi D (lmA B) (B + 269) cA r b2 ar) (lmA B)) (hO : LO D B cA s.heap a b fo H locs) (kk : ∀ (H1 : Heap) (locs1 : List Loc), LO D B cA s.heap a b2 fo H1 locs1 → W p l e R s m args below meth c H1 locs1 (cells + mc) (slots + ms) Q (F0 m (pc + 3) ls (.int r :: rest))) : W p l e R s m args below meth c H locs cells slots Q (F0 m pc ls st0) :=
  va_calli hr hO.S (fun _ _ h => lm_w h) (fun _ h => lm_w h) (fun r' u t H1 locs1 ht hvm hp hB hz hk hS => by subst hp; exact kk H1 locs1 (hO.mod hB ht hk hS))
theorem lm_calll {r : Int64} (hr : va_Run p l e R s m args below meth c H locs cells slots mc ms (F0 m pc ls st0) rest (rfQl D (lmA B) (B + 269) cA r b2 ar) (lmA B)) (hO : LO D B cA s.heap a b fo H locs) (kk : ∀ (H1 : Heap) (locs1 : List Loc), LO D B cA s.heap a b2 fo H1 locs1 → W p l e R s m args below meth c H1 locs1 (cells + mc) (slots + ms) Q (F0 m (pc + 3) ls (.long r :: rest))) : W p l e R s m args below meth c H locs cells slots Q (F0 m pc ls st0) :=
  va_calll hr hO.S (fun _ _ h => lm_w h) (fun _ h => lm_w h) (fun r' u t H1 locs1 ht hvm hp hB hz hk hS => by subst hp; exact kk H1 locs1 (hO.mod hB ht hk hS))
end LAW3
-- both objects at one call, the heap's size apart
theorem Rel0.sz {a b : CwS} (r : Rel0 a b) (z : Nat) : Rel0 a (sR b 101 2 z) := by
  obtain ⟨r1, r2, r3, r4, r5, r6⟩ := r
  exact ⟨r1, r2, r3, r4, r5, by rw [gR_sz b z 101 0 (by omega)]; exact r6⟩
theorem Eq0.both {α : Type} {a b : CwS} {X : Option (α × CwS)} {Y : CwS → Option (α × CwS)} (r : Rel0 a b) (e : ∀ b, Rel0 a b → Eq0 b X (Y b)) : ∃ (k : α) (a' : CwS), X = some (k, a') ∧ ∀ z, ∃ b', Y (sR b 101 2 z) = some (k, b') ∧ Rel0 a' b' ∧ RoomR (sR b 101 2 z) b' := by
  obtain ⟨k, a', b', h1, h2, h3, h4⟩ := e b r
  refine ⟨k, a', h1, fun z => ?_⟩
  obtain ⟨k2, a2, b2, g1, g2, g3, g4⟩ := e (sR b 101 2 z) (r.sz z)
  rw [h1] at g1
  cases g1
  exact ⟨b2, g2, g3, g4⟩
theorem RoomR.sz {b b' : CwS} {z : Nat} (h : RoomR (sR b 101 2 z) b') : gR b 101 0 ≤ gR b' 101 0 ∧ gR b' 101 2 - gR (sR b 101 2 z) 101 2 ≤ 600 + 8 * (gR b' 101 0 - gR b 101 0) ∧ gR b' 101 3 - gR (sR b 101 2 z) 101 3 ≤ 9600 + 134 * (gR b' 101 0 - gR b 101 0) := by
  obtain ⟨h1, h2, h3⟩ := h
  rw [gR_sz b z 101 0 (by omega)] at h1 h2 h3
  omega
