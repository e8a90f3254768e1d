def bS {β : Type} (x : CwS) (f : CwS → Option β) : Option β := f x
theorem bS_some {β : Type} {x : CwS} {f : CwS → Option β} {z : β} (h : bS x f = some z) : ∃ t, t = x ∧ f t = some z := ⟨x, rfl, h⟩
/-- cells and slots made so far only grow, frames and rows stay where they are -/
def Ext (a b : CwS) : Prop := gR a 101 2 ≤ gR b 101 2 ∧ gR a 101 3 ≤ gR b 101 3 ∧ gR a 101 0 ≤ gR b 101 0 ∧ (∀ i, i < gR a 101 0 → gR b 102 i = gR a 102 i) ∧ ∀ x, x < gR a 101 2 → gR a 103 x = 1 → gR b 103 x = 1 ∧ gR b 100 x = gR a 100 x
theorem Ext.refl (a : CwS) : Ext a a := ⟨Nat.le_refl _, Nat.le_refl _, Nat.le_refl _, fun _ _ => rfl, fun _ _ h => ⟨h, rfl⟩⟩
theorem Ext.trans {a b c : CwS} (h1 : Ext a b) (h2 : Ext b c) : Ext a c := ⟨Nat.le_trans h1.1 h2.1, Nat.le_trans h1.2.1 h2.2.1, Nat.le_trans h1.2.2.1 h2.2.2.1, fun i hi => (h2.2.2.2.1 i (Nat.lt_of_lt_of_le hi h1.2.2.1)).trans (h1.2.2.2.1 i hi), fun x hx h => ⟨(h2.2.2.2.2 x (Nat.lt_of_lt_of_le hx h1.1) (h1.2.2.2.2 x hx h).1).1, (h2.2.2.2.2 x (Nat.lt_of_lt_of_le hx h1.1) (h1.2.2.2.2 x hx h).1).2.trans (h1.2.2.2.2 x hx h).2⟩⟩
theorem rfF.ext {a b : CwS} {i fa : Nat} (h : rfF a i fa) (e : Ext a b) : rfF b i fa := ⟨Nat.lt_of_lt_of_le h.1 e.2.2.1, (e.2.2.2.1 i h.1).trans h.2⟩
theorem Ext.new (st : CwS) (n : Nat) : Ext st (rNew st n) := by
  refine ⟨?_, ?_, Nat.le_refl _, fun _ _ => rfl, fun x hx h => ?_⟩
  · show gR st 101 2 ≤ gR st 101 2 + 1
    omega
  · show gR st 101 3 ≤ gR st 101 3 + n
    omega
  · have hne : x ≠ gR st 101 2 := by omega
    exact ⟨(by simp [rNew, gR_sR, hne]; exact h), (by simp [rNew, gR_sR, hne]; rfl)⟩
theorem rq_or {st : CwS} {r : Nat} (h : (decide (r = 0) || isRow st r) = true) : r = 0 ∨ isRow st r = true := by
  rcases Bool.or_eq_true _ _ ▸ h with h | h
  · exact Or.inl (of_decide_eq_true h)
  · exact Or.inr h
def rfK (D : va_G) (cA : Nat → ClassId) (U : State) : Prop := va_K D vwCl (rfTy cA) U ∧ rfE cA U ∧ cxN U
def rfU (D : va_G) (A : Nat → Prop) (b0 : Nat) (cA : Nat → ClassId) (st : CwS) (U : State) : Prop := rfP b0 D cA st U.heap ∧ rfD A b0 st ∧ U.heap.size = gR st 101 2 ∧ rfK D cA U
theorem rfU_blind {D : va_G} {A : Nat → Prop} {b0 : Nat} {cA : Nat → ClassId} {st : CwS} {av : List Value} : FrameBlind (va_Pc av (rfU D A b0 cA st)) := fun a U g mk q => ⟨q.1, q.2.1, q.2.2.1, q.2.2.2.1, va_K.moved (u := U) (U := U.calling g mk a) (Vm.Alike.refl U.vm) q.2.2.2.2.1, rfE.moved (u := U) (U := U.calling g mk a) (Vm.Alike.refl U.vm) q.2.2.2.2.2.1, q.2.2.2.2.2.2.same (U := U.calling g mk a) rfl⟩
theorem rfK.warm {D : va_G} {cA : Nat → ClassId} {s U : State} (h : rfK D cA s) (hW : s.WarmedH U.vm) : rfK D cA U := ⟨va_K.moved hW.alike h.1, rfE.moved hW.alike h.2.1, h.2.2.warm hW⟩
theorem rf_preS {D : va_G} {A : Nat → Prop} {b0 : Nat} {cA : Nat → ClassId} {st : CwS} {s : State} {H : Heap} {locs : List Loc} {As : List Value} (hK : rfK D cA s) (hO : rfO D A b0 cA s st H locs) : PreS s H (va_Pc As (rfU D A b0 cA st)) As :=
  ⟨rfU_blind, fun U hU hW => ⟨rfl, by rw [hU]; exact hO.1, hO.2.1, by rw [hU]; exact hO.2.2.2, hK.warm hW⟩⟩
theorem rf_preM {D : va_G} {A : Nat → Prop} {b0 : Nat} {cA : Nat → ClassId} {st : CwS} {s : State} {H : Heap} {locs : List Loc} {As : List Value} (hK : rfK D cA s) (hO : rfO D A b0 cA s st H locs) : PreV s H RX9 b0 (va_Pc (.ref b0 :: As) (rfU D A b0 cA st)) As :=
  ⟨rfU_blind, va_recv (q := (RX9, TX9, 19)) (ci := 9) (q0 := 0) hK.1 (va_P.one (hO.1.1 0 (by decide))) rfl rfl, fun U hU hW => ⟨rfl, by rw [hU]; exact hO.1, hO.2.1, by rw [hU]; exact hO.2.2.2, hK.warm hW⟩⟩
theorem rf_preF {D : va_G} {A : Nat → Prop} {b0 : Nat} {cA : Nat → ClassId} {st : CwS} {s : State} {H : Heap} {locs : List Loc} {As : List Value} {i fa : Nat} (hf : rfF st i fa) (hK : rfK D cA s) (hO : rfO D A b0 cA s st H locs) : PreV s H RX8 fa (va_Pc (.ref fa :: As) (rfU D A b0 cA st)) As :=
  ⟨rfU_blind, va_recv (q := (RX8, TX8, 15)) (ci := 8) (q0 := 0) hK.1 (va_P.one (hf.at hO.1 0 (by decide))) rfl rfl, fun U hU hW => ⟨rfl, by rw [hU]; exact hO.1, hO.2.1, by rw [hU]; exact hO.2.2.2, hK.warm hW⟩⟩
def rfT (D : va_G) (A : Nat → Prop) (b0 : Nat) (cA : Nat → ClassId) (st : CwS) (t : State) : Prop := rfP b0 D cA st t.heap ∧ rfD A b0 st ∧ t.heap.size = gR st 101 2
abbrev rfQi (D : va_G) (A : Nat → Prop) (b0 : Nat) (cA : Nat → ClassId) (r : Int32) (st : CwS) := va_Qi (fun (x : Int32) (_ : Unit) => x = r) (fun _ t => rfT D A b0 cA st t) A
abbrev rfQl (D : va_G) (A : Nat → Prop) (b0 : Nat) (cA : Nat → ClassId) (r : Int64) (st : CwS) := va_Ql (fun (x : Int64) (_ : Unit) => x = r) (fun _ t => rfT D A b0 cA st t) A
abbrev rfQv (D : va_G) (A : Nat → Prop) (b0 : Nat) (cA : Nat → ClassId) (st : CwS) := va_Qv (fun (_ : Unit) => True) (fun _ t => rfT D A b0 cA st t) A
abbrev rfQr (D : va_G) (A : Nat → Prop) (b0 : Nat) (cA : Nat → ClassId) (r : Nat) (st : CwS) := va_Qr (fun (_ : Unit) => True) (fun _ x t => x = gR st 102 r ∧ rfT D A b0 cA st t) A
section RFR
variable {p : Program} {l : Launch} {e : Env} {R : Room} {s : State} {m : MethodId} {args : Array Value} {below : List Frame} {meth : Method} {c : Code} {H : Heap} {locs : List Loc} {cells slots mc ms : Nat} {Q : State → Prop}
variable {cc : ByteArray} {pc : Nat} {ls : Array Slot} {rest st0 : List Value} {D : va_G} {A : Nat → Prop} {b0 : Nat} {cA : Nat → ClassId} {st st2 : CwS} {a : Array Value}
theorem rf_calli {r : Int32} (hr : va_Run p l e R s m args below meth c H locs cells slots mc ms (F0 m pc ls st0) rest (rfQi D A b0 cA r st2 a) A) (hO : rfO D A b0 cA s st H locs) (kk : ∀ (H1 : Heap) (locs1 : List Loc), rfO D A b0 cA s st2 H1 locs1 → W p l e R s m args below meth c H1 locs1 (cells + mc) (slots + ms) Q (F0 m (pc + 3) ls (.int r :: rest))) : W p l e R s m args below meth c H locs cells slots Q (F0 m pc ls st0) :=
  va_calli hr hO.2.2.1 (fun _ _ h => h) (fun _ h => h) (fun r' u t H1 locs1 ht hvm hp hB _ _ hS => by subst hp; subst ht; exact kk _ locs1 ⟨hB.1, hB.2.1, hS, hB.2.2⟩)
theorem rf_calll {r : Int64} (hr : va_Run p l e R s m args below meth c H locs cells slots mc ms (F0 m pc ls st0) rest (rfQl D A b0 cA r st2 a) A) (hO : rfO D A b0 cA s st H locs) (kk : ∀ (H1 : Heap) (locs1 : List Loc), rfO D A b0 cA s st2 H1 locs1 → W p l e R s m args below meth c H1 locs1 (cells + mc) (slots + ms) Q (F0 m (pc + 3) ls (.long r :: rest))) : W p l e R s m args below meth c H locs cells slots Q (F0 m pc ls st0) :=
  va_calll hr hO.2.2.1 (fun _ _ h => h) (fun _ h => h) (fun r' u t H1 locs1 ht hvm hp hB _ _ hS => by subst hp; subst ht; exact kk _ locs1 ⟨hB.1, hB.2.1, hS, hB.2.2⟩)
theorem rf_callv (hr : va_Run p l e R s m args below meth c H locs cells slots mc ms (F0 m pc ls st0) rest (rfQv D A b0 cA st2 a) A) (hO : rfO D A b0 cA s st H locs) (kk : ∀ (H1 : Heap) (locs1 : List Loc), rfO D A b0 cA s st2 H1 locs1 → W p l e R s m args below meth c H1 locs1 (cells + mc) (slots + ms) Q (F0 m (pc + 3) ls rest)) : W p l e R s m args below meth c H locs cells slots Q (F0 m pc ls st0) :=
  va_callv hr hO.2.2.1 (fun _ _ h => h) (fun _ h => h) (fun u t H1 locs1 ht hvm hp hB _ _ hS => by subst ht; exact kk _ locs1 ⟨hB.1, hB.2.1, hS, hB.2.2⟩)
theorem rf_callr {r : Nat} (hr : va_Run p l e R s m args below meth c H locs cells slots mc ms (F0 m pc ls st0) rest (rfQr D A b0 cA r st2 a) A) (hO : rfO D A b0 cA s st H locs) (kk : ∀ (fa : Nat) (H1 : Heap) (locs1 : List Loc), gR st2 102 r = fa → rfO D A b0 cA s st2 H1 locs1 → W p l e R s m args below meth c H1 locs1 (cells + mc) (slots + ms) Q (F0 m (pc + 3) ls (.ref fa :: rest))) : W p l e R s m args below meth c H locs cells slots Q (F0 m pc ls st0) :=
  va_callr hr hO.2.2.1 (fun _ _ h => h) (fun _ h => h) (fun u ra t H1 locs1 ht hvm hp hB _ _ hS => by subst ht; exact kk ra _ locs1 hB.1.symm ⟨hB.2.1, hB.2.2.1, hS, hB.2.2.2⟩)
theorem rf_iret {r : Int32} (hx : p.tables.exec = Jvm.exec) (hb : c.code = cc) (hr : meth.sig.returnType = some .int) (hlocks : meth.locks = false) (hO : rfO D A b0 cA s st H locs) (hdg : decode cc pc = .ok (.ireturn, 1)) : W p l e R s m args below meth c H locs cells slots (MQ below (rfQi D A b0 cA r st) args s cells slots A) (F0 m pc ls [.int r]) :=
  W.iret hx hb hr (fun t ht hW => ⟨⟨r, (), rfl, rfl, by subst ht; exact ⟨hO.1, hO.2.1, hO.2.2.2⟩⟩, hO.2.2.1.F ht⟩) hO.2.2.1.2.2 hdg hlocks
theorem rf_zret {r : Int32} (hx : p.tables.exec = Jvm.exec) (hb : c.code = cc) (hr : meth.sig.returnType = some .boolean) (hlocks : meth.locks = false) (hO : rfO D A b0 cA s st H locs) (hn : narrow .boolean (.int r) = .int r) (hdg : decode cc pc = .ok (.ireturn, 1)) : W p l e R s m args below meth c H locs cells slots (MQ below (rfQi D A b0 cA r st) args s cells slots A) (F0 m pc ls [.int r]) :=
  W.zret hx hb hr hn (fun t ht hW => ⟨⟨r, (), rfl, rfl, by subst ht; exact ⟨hO.1, hO.2.1, hO.2.2.2⟩⟩, hO.2.2.1.F ht⟩) hO.2.2.1.2.2 hdg hlocks
theorem rf_lret {r : Int64} (hx : p.tables.exec = Jvm.exec) (hb : c.code = cc) (hr : meth.sig.returnType = some .long) (hlocks : meth.locks = false) (hO : rfO D A b0 cA s st H locs) (hdg : decode cc pc = .ok (.lreturn, 1)) : W p l e R s m args below meth c H locs cells slots (MQ below (rfQl D A b0 cA r st) args s cells slots A) (F0 m pc ls [.long r]) :=
  W.lret hx hb hr (fun t ht hW => ⟨⟨r, (), rfl, rfl, by subst ht; exact ⟨hO.1, hO.2.1, hO.2.2.2⟩⟩, hO.2.2.1.F ht⟩) hO.2.2.1.2.2 hdg hlocks
theorem rf_vret (hx : p.tables.exec = Jvm.exec) (hb : c.code = cc) (hr : meth.sig.returnType = none) (hlocks : meth.locks = false) (hO : rfO D A b0 cA s st H locs) (hdg : decode cc pc = .ok (.return_, 1)) : W p l e R s m args below meth c H locs cells slots (MQ below (rfQv D A b0 cA st) args s cells slots A) (F0 m pc ls []) :=
  W.vret hx hb hr (fun t ht hW => ⟨⟨(), rfl, trivial, by subst ht; exact ⟨hO.1, hO.2.1, hO.2.2.2⟩⟩, hO.2.2.1.F ht⟩) hO.2.2.1.2.2 hdg hlocks
theorem rf_aret {r : Nat} {rt : FieldType} (hx : p.tables.exec = Jvm.exec) (hb : c.code = cc) (hr : meth.sig.returnType = some rt) (hrt : ∃ n, rt = .object n) (hlocks : meth.locks = false) (hO : rfO D A b0 cA s st H locs) (hdg : decode cc pc = .ok (.areturn, 1)) : W p l e R s m args below meth c H locs cells slots (MQ below (rfQr D A b0 cA r st) args s cells slots A) (F0 m pc ls [.ref (gR st 102 r)]) :=
  W.aret hx hb hr (Or.inl hrt) (Or.inr ⟨_, rfl⟩) (fun t ht hW => ⟨⟨(), gR st 102 r, rfl, trivial, rfl, by subst ht; exact ⟨hO.1, hO.2.1, hO.2.2.2⟩⟩, hO.2.2.1.F ht⟩) hO.2.2.1.2.2 hdg hlocks
/-- a new row of longs -/
def rAl (z : Int32) : Bool := decide (0 ≤ z.toInt ∧ z.toInt ≤ 1000)
theorem rf_new (hexec : p.tables.exec = Jvm.exec) (hb : c.code = cc) (harr : (Cond.arrayClass .long).before args s = true) (hK : rfK D cA s) (hO : rfO D A b0 cA s st H locs) {z : Int32} (hz : rAl z = true) (hst : st2 = rNew st z.toNatClampNeg) (hcells : cells + 1 ≤ R.cells) (hslots : slots + z.toNatClampNeg ≤ R.slots) (hdg : decode cc pc = .ok (.newarray .long, 2))
    (kk : ∀ H1 : Heap, rfO D A b0 cA s st2 H1 locs → W p l e R s m args below meth c H1 locs (cells + 1) (slots + z.toNatClampNeg) Q (F0 m (pc + 2) ls (rq (gR st 101 2 + 1) :: rest))) : W p l e R s m args below meth c H locs cells slots Q (F0 m pc ls (.int z :: rest)) := by
  have hz := of_decide_eq_true hz
  have q3 : z.toNatClampNeg = z.toInt.toNat := rfl
  have hcy : s.vm.findClass ("[" ++ FieldType.long.toString) = some (cA 1) := (hK.1.2 1 _ rfl).2
  obtain ⟨⟨hP1, hP2, hP3⟩, hD, hS, hsz⟩ := hO
  refine va_newaK (atype := .long) hexec hb harr rfl hdg rfl (cpk_nn hz.1) rfl (by show z.toNatClampNeg * 8 ≤ _; omega) hcells hslots hsz fun H1 cA2 e1 z1 o1 hAr hNm => ?_
  have hcc : cA2 = cA 1 := Option.some.inj (hNm.symm.trans hcy)
  subst hcc
  have old : ∀ (q : Nat × va_E), va_at D vwCl q H → va_at D vwCl q H1 := fun q h => h.kept (o1 q.1 (by rw [← hsz]; exact h.lt))
  have h101 : gR st2 101 2 = gR st 101 2 + 1 := by rw [hst]; rfl
  have h100 : gR st2 101 0 = gR st 101 0 := by rw [hst]; rfl
  have h102 : ∀ i, gR st2 102 i = gR st 102 i := fun i => by rw [hst]; rfl
  have h50 : ∀ i, gR st2 50 i = gR st 50 i := fun i => by rw [hst]; rfl
  have hI : ∀ c i q, gI st2 c i q = gI st c i q := fun c i q => by rw [hst]; rfl
  have hL : ∀ c i q, c ≠ 9 → gL st2 c i q = gL st c i q := fun c i q hc => by
    rw [hst]
    show gL (zL st 9 (gR st 101 2)) c i q = _
    rw [gL_zL, if_neg (fun h => hc h.1)]
  have h103 : ∀ a, a ≠ gR st 101 2 → gR st2 103 a = gR st 103 a := fun a ha => by rw [hst]; simp [rNew, gR_sR, ha]; rfl
  have hrows : ∀ a, gR st2 103 a = 1 → a = gR st 101 2 ∨ (gR st 103 a = 1 ∧ a < gR st 101 2) := fun a ha => by
    by_cases e : a = gR st 101 2
    · exact Or.inl e
    · rw [h103 a e] at ha
      exact Or.inr ⟨ha, by rw [← hsz]; exact (hP3 a ha).lt⟩
  have hlt : ∀ i, i < gR st 101 0 → gR st 102 i + 7 < gR st 101 2 := fun i hi => by rw [← hsz]; exact (hP2 i 7 hi (by decide)).lt
  have hb0 : b0 + 10 < gR st 101 2 := by rw [← hsz]; exact (hP1 10 (by decide)).lt
  refine kk H1 ⟨⟨fun k hk => ?_, fun i j hi hj => ?_, fun a ha => ?_⟩, ⟨?_, ?_, ?_, ?_, ?_, ?_, ?_, ?_⟩, ⟨Nat.le_trans hS.1 (by rw [z1]; omega), fun x h1 h2 => (o1 x (by have := hS.1; omega)).trans (hS.2.1 x h1 h2), hS.2.2⟩, by rw [z1, h101]⟩
  · rw [rfA_congr k (fun c q _ => hI c 0 q) (fun c q hc => hL c 0 q (fun h => by rw [h] at hc; simp only [roL] at hc; omega)) h100 h102]
    exact old _ (hP1 k hk)
  · rw [h100] at hi
    rw [h102, rfB_congr j (fun c q _ => hI c i q) (fun c q hc => hL c i q (fun h => by rw [h] at hc; simp only [roL] at hc; omega)) (fun _ _ _ => h50 _)]
    exact old _ (hP2 i j hi hj)
  · rcases hrows a ha with e | ⟨e, hal⟩
    · subst e
      have e2 : rfR cA st2 (gR st 101 2) = .inl (cA 1, z.toNatClampNeg, .inr (.inl (fun _ => 0))) := by
        rw [hst]
        have g1 : gL (rNew st z.toNatClampNeg) 9 (gR st 101 2) = fun _ => 0 := by
          funext q
          show gL (zL st 9 (gR st 101 2)) 9 (gR st 101 2) q = 0
          rw [gL_zL, if_pos ⟨rfl, rfl⟩]
        have g2 : gR (rNew st z.toNatClampNeg) 100 (gR st 101 2) = z.toNatClampNeg := by simp [rNew, gR_sR]
        simp only [rfR, g1, g2]
      rw [e2]
      exact e1
    · have hne : a ≠ gR st 101 2 := by omega
      have g2 : gR st2 100 a = gR st 100 a := by rw [hst]; simp [rNew, gR_sR, hne]; rfl
      rw [rfR_congr (fun q => by rw [hst]; show gL (zL st 9 (gR st 101 2)) 9 a q = _; rw [gL_zL, if_neg (fun h => hne h.2)]) g2]
      exact old _ (hP3 a e)
  · intro i hi
    rw [h100] at hi
    rw [h102]
    exact hD.1 i hi
  · intro i j hij hj
    rw [h100] at hj
    rw [h102, h102]
    exact hD.2.1 i j hij hj
  · intro a ha
    rcases hrows a ha with e | ⟨e, hal⟩
    · omega
    · exact hD.2.2.1 a e
  · intro a i ha hi
    rw [h100] at hi
    rw [h102]
    rcases hrows a ha with e | ⟨e, hal⟩
    · have := hlt i hi
      omega
    · exact hD.2.2.2.1 a i e hi
  · exact hD.2.2.2.2.1
  · intro i j hi hj
    rw [h100] at hi
    rw [h102]
    exact hD.2.2.2.2.2.1 i j hi hj
  · intro a ha
    rcases hrows a ha with e | ⟨e, hal⟩
    · exact hD.2.2.2.2.2.2.2 a (by omega)
    · exact hD.2.2.2.2.2.2.1 a e
  · intro q hq
    exact hD.2.2.2.2.2.2.2 q (by omega)
end RFR
