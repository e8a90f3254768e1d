theorem va_S.puts {A : Nat → Prop} {H0 H H1 : Heap} {locs L : List Loc} {a : Nat} (h : va_S A H0 H locs) (z : H1.size = H.size) (oq : ∀ q : Nat, q ≠ a → H1[q]? = H[q]?) (ha : A a) (hL : ∀ q ∈ L, q.base = a) : va_S A H0 H1 (locs ++ L) := by
  refine ⟨by rw [z]; exact h.1, fun q h1 h2 => ?_, fun q hq => ?_⟩
  · rw [oq q (fun e => h2 (by rw [e]; exact ha))]
    exact h.2.1 q h1 h2
  · rcases List.mem_append.mp hq with h1 | h1
    · exact h.2.2 q h1
    · rw [hL q h1]
      exact ha
theorem rfO.locs {D : va_G} {A : Nat → Prop} {b0 : Nat} {cA : Nat → ClassId} {s : State} {st : CwS} {H : Heap} {l1 l2 : List Loc} (h : rfO D A b0 cA s st H l1) (h2 : va_S A s.heap H l2) : rfO D A b0 cA s st H l2 := ⟨h.1, h.2.1, h2, h.2.2.2⟩
section RFC
variable {p : Program} {l : Launch} {e : Env} {R : Room} {s : State} {m : MethodId} {args : Array Value} {below : List Frame} {meth : Method} {c : Code} {H : Heap} {locs : List Loc} {cells slots : Nat} {Q : State → Prop}
variable {cc : ByteArray} {pc : Nat} {ls : Array Slot} {rest : List Value} {D : va_G} {A : Nat → Prop} {b0 : Nat} {cA : Nat → ClassId} {st : CwS}
variable {tys : List (ClassId × FieldType)} {x : Nat}
theorem fw_copyl (hexec : p.tables.exec = Jvm.exec) (hb : c.code = cc) (hml : c.maxLocals = ls.size) {own : String} {index : Nat} (hown : s.vm.findClass own = some m.cls) (hlink : (Cond.methodLink own index arraycopyName).before args s = true) (hnat : (Cond.native arraycopyName).before args s = true) (hstat : (Cond.static arraycopyName).before args s = true) (hini : (Cond.initialized "java/lang/System").before args s = true)
    (hK : va_K D vwCl tys s) (t0 t1 : Nat) {a0 : Nat} {c0 c1 : ClassId} {n0 n1 : Nat} {f g : Nat → Int64} (hc0 : va_at D vwCl (a0, .inl (c0, n0, .inr (.inl f))) H) (hc1 : va_at D vwCl (x, .inl (c1, n1, .inr (.inl g))) H) (ht0 : tys[t0]? = some (c0, .long)) (ht1 : tys[t1]? = some (c1, .long))
    {sp dp n : Int32} (hck : cpk sp dp n n0 n1 = true) (hframes : 1 ≤ R.frames) (hlocals : (rest.map fun v => v.category).sum + (nativeFrameWords "java/lang/System" "arraycopy" 5 + 11) ≤ R.locals) (hdg : decode cc pc = .ok (.invokestatic index, 3))
    (kk : ∀ (H1 : Heap) (L : List Loc), (∀ q ∈ L, q.base = x) → va_at D vwCl (x, .inl (c1, n1, .inr (.inl (va_cpy f g sp.toNatClampNeg dp.toNatClampNeg n.toNatClampNeg)))) H1 → H1.size = H.size → (∀ q : Nat, q ≠ x → H1[q]? = H[q]?) → W p l e R s m args below meth c H1 (locs ++ L) cells slots Q (F0 m (pc + 3) ls rest)) : W p l e R s m args below meth c H locs cells slots Q (F0 m pc ls (.int n :: .int dp :: .ref x :: .int sp :: .ref a0 :: rest)) := by
  obtain ⟨h1, h2, h3, h4, h5⟩ := cpk_all hck
  have nn : ∀ z : Int32, ¬ z < 0 → z.toInt = (z.toNatClampNeg : Int) := by
    intro z hz
    have hz0 : (0 : Int) ≤ z.toInt := by
      have := Int32.not_lt.mp hz
      simpa using Int32.le_iff_toInt_le.mp this
    show z.toInt = ((z.toInt.toNat : Nat) : Int)
    omega
  intro T hT X
  have hc0 : H[a0]? = some (vp_cell c0 (n0, .inr (.inl f))) := hc0
  have hc1 : H[x]? = some (vp_cell c1 (n1, .inr (.inl g))) := hc1
  obtain ⟨-, k0, hk0, cm0, hkk0⟩ := (hK.2 t0 _ ht0).1 n0 (fun j => .long (f j))
  obtain ⟨-, k1, hk1, cm1, hkk1⟩ := (hK.2 t1 _ ht1).1 n1 (fun j => .long (g j))
  obtain ⟨vm', X', step⟩ := X.arraycopy hexec hown hlink hnat hstat hini (src := a0) (dst := x) (cs := vp_cell c0 (n0, .inr (.inl f))) (cd := vp_cell c1 (n1, .inr (.inl g))) (srcPos := sp) (destPos := dp) (n := n) (by rw [hT]; exact hc0) (by rw [hT]; exact hc1)
    (fun _ h => by cases h) (fun _ h => by cases h) (fun h => by cases h) (fun h => by cases h) hk0 hk1 hkk0 hkk1 (by simp [refKind]) h1 h2 h3
    (by rw [nn sp h1, nn n h3]; show ¬ _ > ((arrV c0 n0 (fun j => .long (f j))).slots.size : Int); rw [arrV_size]; omega)
    (by rw [nn dp h2, nn n h3]; show ¬ _ > ((arrV c1 n1 (fun j => .long (g j))).slots.size : Int); rw [arrV_size]; omega)
    (fun vm₁ _ i hi => by
      have e : (vp_cell c0 (n0, .inr (.inl f))).slots.getD (sp.toNatClampNeg + i) .null = .long (f (sp.toNatClampNeg + i)) := by
        show (arrV c0 n0 (fun j => .long (f j))).slots.getD _ _ = _
        rw [Array.getD_eq_getD_getElem?, arrV_read _ _ (by omega)]
        rfl
      refine ⟨?_, ?_⟩
      · rw [e]
        rfl
      · rw [e]
        exact trivial)
    (g := F0 m pc ls (.int n :: .int dp :: .ref x :: .int sp :: .ref a0 :: rest)) rfl (by rw [hml]) (rest := rest) rfl (by rw [hb]; exact hdg) hframes (by show 2 * 0 + _ + _ ≤ _; omega)
  have e1 : copied (vp_cell c0 (n0, .inr (.inl f))) (vp_cell c1 (n1, .inr (.inl g))) sp dp n = vp_cell c1 (n1, .inr (.inl (va_cpy f g sp.toNatClampNeg dp.toNatClampNeg n.toNatClampNeg))) := va_copied (fun z => .long z) c0 c1 f g h4
  rw [e1] at X' step
  have hl : x < H.size := (Array.getElem?_eq_some_iff.mp hc1).1
  have hheap : ((T.setVm vm').setCell x (vp_cell c1 (n1, .inr (.inl (va_cpy f g sp.toNatClampNeg dp.toNatClampNeg n.toNatClampNeg))))).heap = H.setIfInBounds x (vp_cell c1 (n1, .inr (.inl (va_cpy f g sp.toNatClampNeg dp.toNatClampNeg n.toNatClampNeg)))) := by rw [← hT]; rfl
  have oq : ∀ q : Nat, q ≠ x → (H.setIfInBounds x (vp_cell c1 (n1, .inr (.inl (va_cpy f g sp.toNatClampNeg dp.toNatClampNeg n.toNatClampNeg)))))[q]? = H[q]? := fun q hq => by simp [Array.getElem?_setIfInBounds, Ne.symm hq]
  obtain ⟨t, a1, b1⟩ := kk _ _ (fun q hq => by
      obtain ⟨z, -, hz⟩ := List.mem_map.mp hq
      rw [← hz]) (show (H.setIfInBounds x _)[x]? = some _ by simp [Array.getElem?_setIfInBounds, hl]) (by simp) oq _ hheap X'
  exact ⟨t, step t a1, b1⟩
theorem al_Row (hx : p.tables.exec = Jvm.exec) (hb : c.code = cc) (hK : rfK D cA s) (hO : rfO D A b0 cA s st H locs) {x : Int32} {r : Nat} (hr : isRow st r = true) (hin : ix x (gR st 100 (r - 1)) = true) (hdg : decode cc pc = .ok (.laload, 1)) (kk : W p l e R s m args below meth c H locs cells slots Q (F0 m (pc + 1) ls (.long (gL st 9 (r - 1) (x.toNatClampNeg)) :: rest))) : W p l e R s m args below meth c H locs cells slots Q (F0 m pc ls (.int x :: rq r :: rest)) := by
  have hr := of_decide_eq_true hr
  cases r with
  | zero => exact absurd hr.1 (by omega)
  | succ a => exact va_lald hx hb hK.1 (va_P.one (hO.1.2.2 a hr.2)) 0 1 rfl rfl (ix_in hin) hdg kk
theorem an_Row (hx : p.tables.exec = Jvm.exec) (hb : c.code = cc) (hK : rfK D cA s) (hO : rfO D A b0 cA s st H locs) {r : Nat} (hr : isRow st r = true) (hdg : decode cc pc = .ok (.arraylength, 1)) (kk : W p l e R s m args below meth c H locs cells slots Q (F0 m (pc + 1) ls (.int (Int32.ofNat (gR st 100 (r - 1))) :: rest))) : W p l e R s m args below meth c H locs cells slots Q (F0 m pc ls (rq r :: rest)) := by
  have hr := of_decide_eq_true hr
  cases r with
  | zero => exact absurd hr.1 (by omega)
  | succ a => exact va_alen hx hb hK.1 (va_P.one (hO.1.2.2 a hr.2)) 0 1 rfl rfl rfl hdg kk
theorem as_Row (hx : p.tables.exec = Jvm.exec) (hb : c.code = cc) (hK : rfK D cA s) (hO : rfO D A b0 cA s st H locs) {x : Int32} {v : Int64} {r : Nat} (hr : isRow st r = true) (hin : ix x (gR st 100 (r - 1)) = true) (hdg : decode cc pc = .ok (.lastore, 1)) (kk : ∀ (H1 : Heap) (locs1 : List Loc), rfO D A b0 cA s (sL st 9 (r - 1) (x.toNatClampNeg) v) H1 locs1 → W p l e R s m args below meth c H1 locs1 cells slots Q (F0 m (pc + 1) ls rest)) : W p l e R s m args below meth c H locs cells slots Q (F0 m pc ls (.long v :: .int x :: rq r :: rest)) := by
  have hr := of_decide_eq_true hr
  cases r with
  | zero => exact absurd hr.1 (by omega)
  | succ a =>
    have hr2 : gR st 103 a = 1 := hr.2
    refine fw_last hx hb hK.1 (hO.1.2.2 a hr2) 1 rfl (ix_in hin) hdg (fun H1 sl hat z oq => kk H1 _ (rf_wR (st2 := sL st 9 a (x.toNatClampNeg) v) hO hr2 (fun _ _ _ => rfl) (fun c' i' q' hc => by rw [gL_sL, if_neg]; rintro ⟨rfl, rfl, -⟩; exact hc ⟨rfl, rfl⟩) (fun _ _ => rfl) ?_ z oq))
    have e : rfR cA (sL st 9 a (x.toNatClampNeg) v) a = .inl (cA 1, gR st 100 a, .inr (.inl (vp_updL (gL st 9 a) x.toNatClampNeg v))) := by
      simp only [rfR]
      rw [cw_updL]
      rfl
    rw [e]
    exact hat
theorem ac_MLeaves_MHadL (hx : p.tables.exec = Jvm.exec) (hb : c.code = cc) (hml : c.maxLocals = ls.size) {own : String} {index : Nat} (hown : s.vm.findClass own = some m.cls) (hlink : (Cond.methodLink own index arraycopyName).before args s = true) (hnat : (Cond.native arraycopyName).before args s = true) (hstat : (Cond.static arraycopyName).before args s = true) (hini : (Cond.initialized "java/lang/System").before args s = true) (hK : rfK D cA s) (hO : rfO D A b0 cA s st H locs) {i fa : Nat} (hf : rfF st i fa) {sp dp n : Int32} (hck : cpk sp dp n 64 64 = true) (hframes : 1 ≤ R.frames) (hlocals : (rest.map fun v => v.category).sum + (nativeFrameWords "java/lang/System" "arraycopy" 5 + 11) ≤ R.locals) (hdg : decode cc pc = .ok (.invokestatic index, 3)) (kk : ∀ (H1 : Heap) (locs1 : List Loc), rfO D A b0 cA s (cL st 0 0 (sp.toNatClampNeg) 5 i (dp.toNatClampNeg) (n.toNatClampNeg)) H1 locs1 → W p l e R s m args below meth c H1 locs1 cells slots Q (F0 m (pc + 3) ls rest)) : W p l e R s m args below meth c H locs cells slots Q (F0 m pc ls (.int n :: .int dp :: .ref (fa + 1) :: .int sp :: .ref (b0 + 5) :: rest)) := by
  refine fw_copyl hx hb hml hown hlink hnat hstat hini hK.1 1 1 (hO.1.1 5 (by decide)) (hf.at hO.1 1 (by decide)) rfl rfl hck hframes hlocals hdg (fun H1 L hL hat z oq => kk H1 _ (rfO.locs (rf_wB (st2 := cL st 0 0 (sp.toNatClampNeg) 5 i (dp.toNatClampNeg) (n.toNatClampNeg)) (i0 := i) (j0 := 1) (kk := 0) hO hf (by decide) (fun _ _ _ _ => rfl) (fun c' i' q' hc => by rw [gL_cL, if_neg]; rintro ⟨rfl, rfl, -⟩; exact hc ⟨rfl, rfl⟩) (fun _ _ _ => rfl) (fun h => by cases h) ?_ z oq) (hO.2.2.1.puts z oq (by obtain ⟨q1, rfl⟩ := hf; exact hO.2.1.2.2.2.2.2.1 i 1 q1 (by decide)) hL)))
  have e : rfB cA (cL st 0 0 (sp.toNatClampNeg) 5 i (dp.toNatClampNeg) (n.toNatClampNeg)) fa i 1 = .inl (cA 1, 64, .inr (.inl (va_cpy (gL st 0 0) (gL st 5 i) sp.toNatClampNeg dp.toNatClampNeg n.toNatClampNeg))) := by
    simp only [rfA, rfB]
    rw [cw_cpyL]
  rw [e]
  exact hat
theorem ac_MBals_MHadB (hx : p.tables.exec = Jvm.exec) (hb : c.code = cc) (hml : c.maxLocals = ls.size) {own : String} {index : Nat} (hown : s.vm.findClass own = some m.cls) (hlink : (Cond.methodLink own index arraycopyName).before args s = true) (hnat : (Cond.native arraycopyName).before args s = true) (hstat : (Cond.static arraycopyName).before args s = true) (hini : (Cond.initialized "java/lang/System").before args s = true) (hK : rfK D cA s) (hO : rfO D A b0 cA s st H locs) {i fa : Nat} (hf : rfF st i fa) {sp dp n : Int32} (hck : cpk sp dp n 8 8 = true) (hframes : 1 ≤ R.frames) (hlocals : (rest.map fun v => v.category).sum + (nativeFrameWords "java/lang/System" "arraycopy" 5 + 11) ≤ R.locals) (hdg : decode cc pc = .ok (.invokestatic index, 3)) (kk : ∀ (H1 : Heap) (locs1 : List Loc), rfO D A b0 cA s (cL st 1 0 (sp.toNatClampNeg) 6 i (dp.toNatClampNeg) (n.toNatClampNeg)) H1 locs1 → W p l e R s m args below meth c H1 locs1 cells slots Q (F0 m (pc + 3) ls rest)) : W p l e R s m args below meth c H locs cells slots Q (F0 m pc ls (.int n :: .int dp :: .ref (fa + 2) :: .int sp :: .ref (b0 + 6) :: rest)) := by
  refine fw_copyl hx hb hml hown hlink hnat hstat hini hK.1 1 1 (hO.1.1 6 (by decide)) (hf.at hO.1 2 (by decide)) rfl rfl hck hframes hlocals hdg (fun H1 L hL hat z oq => kk H1 _ (rfO.locs (rf_wB (st2 := cL st 1 0 (sp.toNatClampNeg) 6 i (dp.toNatClampNeg) (n.toNatClampNeg)) (i0 := i) (j0 := 2) (kk := 0) hO hf (by decide) (fun _ _ _ _ => rfl) (fun c' i' q' hc => by rw [gL_cL, if_neg]; rintro ⟨rfl, rfl, -⟩; exact hc ⟨rfl, rfl⟩) (fun _ _ _ => rfl) (fun h => by cases h) ?_ z oq) (hO.2.2.1.puts z oq (by obtain ⟨q1, rfl⟩ := hf; exact hO.2.1.2.2.2.2.2.1 i 2 q1 (by decide)) hL)))
  have e : rfB cA (cL st 1 0 (sp.toNatClampNeg) 6 i (dp.toNatClampNeg) (n.toNatClampNeg)) fa i 2 = .inl (cA 1, 8, .inr (.inl (va_cpy (gL st 1 0) (gL st 6 i) sp.toNatClampNeg dp.toNatClampNeg n.toNatClampNeg))) := by
    simp only [rfA, rfB]
    rw [cw_cpyL]
  rw [e]
  exact hat
theorem ac_MHadL_MLeaves (hx : p.tables.exec = Jvm.exec) (hb : c.code = cc) (hml : c.maxLocals = ls.size) {own : String} {index : Nat} (hown : s.vm.findClass own = some m.cls) (hlink : (Cond.methodLink own index arraycopyName).before args s = true) (hnat : (Cond.native arraycopyName).before args s = true) (hstat : (Cond.static arraycopyName).before args s = true) (hini : (Cond.initialized "java/lang/System").before args s = true) (hK : rfK D cA s) (hO : rfO D A b0 cA s st H locs) {i fa : Nat} (hf : rfF st i fa) {sp dp n : Int32} (hck : cpk sp dp n 64 64 = true) (hframes : 1 ≤ R.frames) (hlocals : (rest.map fun v => v.category).sum + (nativeFrameWords "java/lang/System" "arraycopy" 5 + 11) ≤ R.locals) (hdg : decode cc pc = .ok (.invokestatic index, 3)) (kk : ∀ (H1 : Heap) (locs1 : List Loc), rfO D A b0 cA s (cL st 5 i (sp.toNatClampNeg) 0 0 (dp.toNatClampNeg) (n.toNatClampNeg)) H1 locs1 → W p l e R s m args below meth c H1 locs1 cells slots Q (F0 m (pc + 3) ls rest)) : W p l e R s m args below meth c H locs cells slots Q (F0 m pc ls (.int n :: .int dp :: .ref (b0 + 5) :: .int sp :: .ref (fa + 1) :: rest)) := by
  refine fw_copyl hx hb hml hown hlink hnat hstat hini hK.1 1 1 (hf.at hO.1 1 (by decide)) (hO.1.1 5 (by decide)) rfl rfl hck hframes hlocals hdg (fun H1 L hL hat z oq => kk H1 _ (rfO.locs (rf_wF (st2 := cL st 5 i (sp.toNatClampNeg) 0 0 (dp.toNatClampNeg) (n.toNatClampNeg)) (k0 := 5) (kk := 0) hO (by decide) (fun _ _ _ _ => rfl) (fun c' i' q' hc => by rw [gL_cL, if_neg]; rintro ⟨rfl, -⟩; exact hc rfl) (fun _ _ => rfl) ?_ z oq) (hO.2.2.1.puts z oq (hO.2.1.2.2.2.2.1 5 (by decide)) hL)))
  have e : rfA b0 cA (cL st 5 i (sp.toNatClampNeg) 0 0 (dp.toNatClampNeg) (n.toNatClampNeg)) 5 = .inl (cA 1, 64, .inr (.inl (va_cpy (gL st 5 i) (gL st 0 0) sp.toNatClampNeg dp.toNatClampNeg n.toNatClampNeg))) := by
    simp only [rfA, rfB]
    rw [cw_cpyL]
  rw [e]
  exact hat
theorem ac_MHadB_MBals (hx : p.tables.exec = Jvm.exec) (hb : c.code = cc) (hml : c.maxLocals = ls.size) {own : String} {index : Nat} (hown : s.vm.findClass own = some m.cls) (hlink : (Cond.methodLink own index arraycopyName).before args s = true) (hnat : (Cond.native arraycopyName).before args s = true) (hstat : (Cond.static arraycopyName).before args s = true) (hini : (Cond.initialized "java/lang/System").before args s = true) (hK : rfK D cA s) (hO : rfO D A b0 cA s st H locs) {i fa : Nat} (hf : rfF st i fa) {sp dp n : Int32} (hck : cpk sp dp n 8 8 = true) (hframes : 1 ≤ R.frames) (hlocals : (rest.map fun v => v.category).sum + (nativeFrameWords "java/lang/System" "arraycopy" 5 + 11) ≤ R.locals) (hdg : decode cc pc = .ok (.invokestatic index, 3)) (kk : ∀ (H1 : Heap) (locs1 : List Loc), rfO D A b0 cA s (cL st 6 i (sp.toNatClampNeg) 1 0 (dp.toNatClampNeg) (n.toNatClampNeg)) H1 locs1 → W p l e R s m args below meth c H1 locs1 cells slots Q (F0 m (pc + 3) ls rest)) : W p l e R s m args below meth c H locs cells slots Q (F0 m pc ls (.int n :: .int dp :: .ref (b0 + 6) :: .int sp :: .ref (fa + 2) :: rest)) := by
  refine fw_copyl hx hb hml hown hlink hnat hstat hini hK.1 1 1 (hf.at hO.1 2 (by decide)) (hO.1.1 6 (by decide)) rfl rfl hck hframes hlocals hdg (fun H1 L hL hat z oq => kk H1 _ (rfO.locs (rf_wF (st2 := cL st 6 i (sp.toNatClampNeg) 1 0 (dp.toNatClampNeg) (n.toNatClampNeg)) (k0 := 6) (kk := 0) hO (by decide) (fun _ _ _ _ => rfl) (fun c' i' q' hc => by rw [gL_cL, if_neg]; rintro ⟨rfl, -⟩; exact hc rfl) (fun _ _ => rfl) ?_ z oq) (hO.2.2.1.puts z oq (hO.2.1.2.2.2.2.1 6 (by decide)) hL)))
  have e : rfA b0 cA (cL st 6 i (sp.toNatClampNeg) 1 0 (dp.toNatClampNeg) (n.toNatClampNeg)) 6 = .inl (cA 1, 8, .inr (.inl (va_cpy (gL st 6 i) (gL st 1 0) sp.toNatClampNeg dp.toNatClampNeg n.toNatClampNeg))) := by
    simp only [rfA, rfB]
    rw [cw_cpyL]
  rw [e]
  exact hat
theorem ac_Row_Row (hx : p.tables.exec = Jvm.exec) (hb : c.code = cc) (hml : c.maxLocals = ls.size) {own : String} {index : Nat} (hown : s.vm.findClass own = some m.cls) (hlink : (Cond.methodLink own index arraycopyName).before args s = true) (hnat : (Cond.native arraycopyName).before args s = true) (hstat : (Cond.static arraycopyName).before args s = true) (hini : (Cond.initialized "java/lang/System").before args s = true) (hK : rfK D cA s) (hO : rfO D A b0 cA s st H locs) {r1 r2 : Nat} (hr1 : isRow st r1 = true) (hr2 : isRow st r2 = true) {sp dp n : Int32} (hck : cpk sp dp n (gR st 100 (r1 - 1)) (gR st 100 (r2 - 1)) = true) (hframes : 1 ≤ R.frames) (hlocals : (rest.map fun v => v.category).sum + (nativeFrameWords "java/lang/System" "arraycopy" 5 + 11) ≤ R.locals) (hdg : decode cc pc = .ok (.invokestatic index, 3)) (kk : ∀ (H1 : Heap) (locs1 : List Loc), rfO D A b0 cA s (cL st 9 (r1 - 1) (sp.toNatClampNeg) 9 (r2 - 1) (dp.toNatClampNeg) (n.toNatClampNeg)) H1 locs1 → W p l e R s m args below meth c H1 locs1 cells slots Q (F0 m (pc + 3) ls rest)) : W p l e R s m args below meth c H locs cells slots Q (F0 m pc ls (.int n :: .int dp :: rq r2 :: .int sp :: rq r1 :: rest)) := by
  have hr1 := of_decide_eq_true hr1
  have hr2 := of_decide_eq_true hr2
  cases r1 with
  | zero => exact absurd hr1.1 (by omega)
  | succ a1 =>
    cases r2 with
    | zero => exact absurd hr2.1 (by omega)
    | succ a2 =>
      have h1 : gR st 103 a1 = 1 := hr1.2
      have h2 : gR st 103 a2 = 1 := hr2.2
      refine fw_copyl hx hb hml hown hlink hnat hstat hini hK.1 1 1 (hO.1.2.2 a1 h1) (hO.1.2.2 a2 h2) rfl rfl hck hframes hlocals hdg (fun H1 L hL hat z oq => kk H1 _ (rfO.locs (rf_wR (st2 := cL st 9 a1 (sp.toNatClampNeg) 9 a2 (dp.toNatClampNeg) (n.toNatClampNeg)) (kk := 0) hO h2 (fun _ _ _ => rfl) (fun c' i' q' hc => by rw [gL_cL, if_neg]; rintro ⟨rfl, rfl, -⟩; exact hc ⟨rfl, rfl⟩) (fun _ _ => rfl) ?_ z oq) (hO.2.2.1.puts z oq (hO.2.1.2.2.2.2.2.2.1 a2 h2) hL)))
      have e : rfR cA (cL st 9 a1 (sp.toNatClampNeg) 9 a2 (dp.toNatClampNeg) (n.toNatClampNeg)) a2 = .inl (cA 1, gR st 100 a2, .inr (.inl (va_cpy (gL st 9 a1) (gL st 9 a2) sp.toNatClampNeg dp.toNatClampNeg n.toNatClampNeg))) := by
        simp only [rfR]
        rw [cw_cpyL]
        rfl
      rw [e]
      exact hat
end RFC
