theorem va_P.one {D : va_G} {cl : List vw_C} {q : Nat × va_E} {H : Heap} (h : va_at D cl q H) : va_P D cl [q] H := fun k x hx => by
  have hz : k < 1 := (List.getElem?_eq_some_iff.mp hx).1
  rw [show k = 0 by omega] at hx
  cases hx
  exact h
theorem fw_self (vm : Vm) (c : ClassId) : vm.assignable c c = true := by
  show vm.assignableAux _ c c = true
  unfold Vm.assignableAux
  simp
/-- the class of rows of longs, that of rows of such rows -/
def rfE (cA : Nat → ClassId) (U : State) : Prop := ∃ kA k1 : Class, U.vm.classes[cA 5]? = some kA ∧ kA.kind = .array (cA 1) (.array .long) ∧ U.vm.classes[cA 1]? = some k1
theorem rfE.moved {cA : Nat → ClassId} {u U : State} (hvm : u.vm.Alike U.vm) (h : rfE cA u) : rfE cA U := by
  obtain ⟨kA, k1, h1, h2, h3⟩ := h
  obtain ⟨k', hk', he⟩ := hvm.2.2 _ _ h1
  obtain ⟨k'', hk'', -⟩ := hvm.2.2 _ _ h3
  exact ⟨k', k'', hk', by rw [he]; exact h2, hk''⟩
/-- the links between nest mates that constructors use, and the array classes over classes -/
def cxN (U : State) : Prop := va_Nw (.methodLinkNest RX7 18 yX3_init "CallWalker") U ∧ va_Nw (.methodLinkNest RX1 21 yX0_init "CallWalker") U ∧ va_Nw (.methodLinkNest RX2 40 yX4_init "CallWalker") U ∧ va_Nw (.methodLinkNest RX9 182 yX8_init "CallWalkerModel") U ∧ (Cond.arrayOver (.object "CallWalker$Behaviour")).before #[] U = true ∧ (Cond.arrayOver (.object "CallWalker$Frame")).before #[] U = true ∧ (Cond.arrayOver (.object "CallWalkerModel$Frame")).before #[] U = true ∧ (Cond.arrayOver (.array .long)).before #[] U = true
theorem ao_alike {t : FieldType} {s U : State} (hv : s.vm.Alike U.vm) (hZ : (Cond.arrayOver t).before #[] s = true) : (Cond.arrayOver t).before #[] U = true := by
  have h := Cond.arrayOver_setVmC (args := #[]) (s := s) hv t
  rw [hZ] at h
  exact h
theorem ao_use {t : FieldType} {A : Array Value} {U : State} (h : (Cond.arrayOver t).before #[] U = true) : (Cond.arrayOver t).before A U = true := h
theorem cxN.warm {s U : State} (h : cxN s) (hW : s.WarmedH U.vm) : cxN U := ⟨va_Nw.warmM hW h.1, va_Nw.warmM hW h.2.1, va_Nw.warmM hW h.2.2.1, va_Nw.warmM hW h.2.2.2.1, ao_alike hW.alike h.2.2.2.2.1, ao_alike hW.alike h.2.2.2.2.2.1, ao_alike hW.alike h.2.2.2.2.2.2.1, ao_alike hW.alike h.2.2.2.2.2.2.2⟩
theorem cxN.same {s U : State} (h : cxN s) (hv : s.vm = U.vm) : cxN U :=
  have ha : s.vm.Alike U.vm := hv ▸ Vm.Alike.refl s.vm
  ⟨va_Nw.same rfl hv h.1, va_Nw.same rfl hv h.2.1, va_Nw.same rfl hv h.2.2.1, va_Nw.same rfl hv h.2.2.2.1, ao_alike ha h.2.2.2.2.1, ao_alike ha h.2.2.2.2.2.1, ao_alike ha h.2.2.2.2.2.2.1, ao_alike ha h.2.2.2.2.2.2.2⟩
section FWR
variable {p : Program} {l : Launch} {e : Env} {R : Room} {s : State} {m : MethodId} {args : Array Value} {below : List Frame} {meth : Method} {c : Code} {H : Heap} {locs : List Loc} {cells slots : Nat} {Q : State → Prop}
variable {cc : ByteArray} {pc : Nat} {ls : Array Slot} {rest : List Value} {D : va_G} {tys : List (ClassId × FieldType)} {x : Nat}
theorem fw_put (hexec : p.tables.exec = Jvm.exec) (hb : c.code = cc) {own ref C : String} {T : u_T} {N ci index : Nat} {Ts : List Cond} (hts : ∀ w ∈ Ts, w.before args s = true) (hin : ∀ w ∈ u_ws C T N, w ∈ Ts) (ty0 : Nat → FieldType) (hty : ∀ k, k < N → parseFieldDescriptor (T k).2.2.1 = some (ty0 k)) (hnm : ∀ a, a < N → ∀ b, b < N → a ≠ b → (T a).2.1 ≠ (T b).2.1) (hown : s.vm.findClass own = some m.cls) (hK : va_K D vwCl tys s) {fs : List Value} (hat : va_at D vwCl (x, .inr (ci, fs)) H) (hc : vwCl[ci]? = some (C, T, N)) (k : Nat) (hk : k < N) (hlink : (Cond.fieldLink own index ref (T k).2.1 (T k).2.2.1).before args s = true) (hsame : ∀ x, s.fieldFound? (T k).1 (T k).2.1 (T k).2.2.1 = some x → s.fieldFound? ref (T k).2.1 (T k).2.2.1 = some x) (hfin : (T k).2.2.2 = false) {ty : FieldType} {v : Value} (hd : parseFieldDescriptor (T k).2.2.1 = some ty) (hn : narrow ty v = v) (hfit : fits ty v = true) (hl : k < fs.length)
    (hdg : decode cc pc = .ok (.putfield index, 3)) (kk : ∀ (H1 : Heap) (sl : Nat), va_at D vwCl (x, .inr (ci, fs.set k v)) H1 → H1.size = H.size → (∀ q : Nat, q ≠ x → H1[q]? = H[q]?) → W p l e R s m args below meth c H1 (locs ++ [⟨x, sl⟩]) cells slots Q (F0 m (pc + 3) ls rest)) : W p l e R s m args below meth c H locs cells slots Q (F0 m pc ls (v :: .ref x :: rest)) := by
  have hap := va_apart (own := own) hts hin ty0 hty hnm hK hc
  obtain ⟨r, h1, cell, q1, q2, q3, q4⟩ := hat
  have hr : r = (C, T, N) := Option.some.inj (h1.symm.trans hc)
  subst hr
  obtain ⟨hS, hfc, kC, hkC, hkind⟩ := hK.1 ci _ hc
  obtain ⟨cf, kf, fi, f, hi, hsl⟩ := hS k hk
  have hlay := hts _ (hin _ (u_in_lay hk))
  unfold u_lay at hlay
  rw [if_neg (by rw [hfin]; decide)] at hlay
  have hst := (u_facts hfc hkC (u_lays hts hin hk) hi).1
  have h6 := u_store hfc hkC hkind hlay hi hd hn hfit
  refine W.putK hexec hb (f := f) ⟨hown, hlink, ⟨_, _, _, hsame _ hi⟩, hst⟩ (by rw [q2]; exact h6) q1 q3 (by rw [hsl]; exact k2_hasslot (q4 k hk)) rfl rfl hdg fun H' e1 e2 e3 => ?_
  rw [hsl] at e1 ⊢
  exact kk H' _ ⟨_, hc, t_OB.to (V := updV (vp_V fs) k v) ⟨_, e1, q2, q3, t_set q4 hap hk v⟩ (fun j _ => vp_updV_set hl v j)⟩ e2 e3
theorem fw_iast (hexec : p.tables.exec = Jvm.exec) (hb : c.code = cc) (hK : va_K D vwCl tys s) {cy : ClassId} {n : Nat} {f : Nat → Int32} (hat : va_at D vwCl (x, .inl (cy, n, .inl f)) H) (t0 : Nat) (ht : tys[t0]? = some (cy, .int)) {i v : Int32} (hin : vp_in i n) (hdg : decode cc pc = .ok (.iastore, 1)) (kk : ∀ (H1 : Heap) (sl : Nat), va_at D vwCl (x, .inl (cy, n, .inl (upd f i.toNatClampNeg v))) H1 → H1.size = H.size → (∀ q : Nat, q ≠ x → H1[q]? = H[q]?) → W p l e R s m args below meth c H1 (locs ++ [⟨x, sl⟩]) cells slots Q (F0 m (pc + 1) ls rest)) : W p l e R s m args below meth c H locs cells slots Q (F0 m pc ls (.int v :: .int i :: .ref x :: rest)) := by
  refine W.iast hexec hb hat ((hK.2 t0 _ ht).1 n (fun j => .int (f j))) (fun q => by cases q) (by show ¬ (i < 0 ∨ (arrV _ _ _).slots.size ≤ _); rw [arrV_size]; exact hin) rfl rfl hdg fun H1 e z oq => kk H1 _ ?_ z oq
  show H1[x]? = some (vp_cell _ _)
  rw [e]
  rw [vp_cell_i, vp_cell_i, arrV_store]
  congr 2
  funext q
  by_cases hq : q = i.toNatClampNeg
  · subst hq
    simp [updV, upd]
  · simp [updV, upd, hq]
theorem fw_zast (hexec : p.tables.exec = Jvm.exec) (hb : c.code = cc) (hK : va_K D vwCl tys s) {cy : ClassId} {n : Nat} {f : Nat → Int32} (hat : va_at D vwCl (x, .inl (cy, n, .inl f)) H) (t0 : Nat) (ht : tys[t0]? = some (cy, .boolean)) {i v : Int32} (hin : vp_in i n) (hdg : decode cc pc = .ok (.bastore, 1)) (kk : ∀ (H1 : Heap) (sl : Nat), va_at D vwCl (x, .inl (cy, n, .inl (upd f i.toNatClampNeg (vp_nar .boolean v)))) H1 → H1.size = H.size → (∀ q : Nat, q ≠ x → H1[q]? = H[q]?) → W p l e R s m args below meth c H1 (locs ++ [⟨x, sl⟩]) cells slots Q (F0 m (pc + 1) ls rest)) : W p l e R s m args below meth c H locs cells slots Q (F0 m pc ls (.int v :: .int i :: .ref x :: rest)) := by
  refine W.zast hexec hb hat ((hK.2 t0 _ ht).1 n (fun j => .int (f j))) (fun q => by cases q) (by show ¬ (i < 0 ∨ (arrV _ _ _).slots.size ≤ _); rw [arrV_size]; exact hin) rfl rfl hdg fun H1 e z oq => kk H1 _ ?_ z oq
  show H1[x]? = some (vp_cell _ _)
  rw [e]
  rw [vp_cell_i, vp_cell_i, arrV_store]
  congr 2
  funext q
  by_cases hq : q = i.toNatClampNeg
  · subst hq
    simp [updV, upd, vp_nar]
    try rfl
  · simp [updV, upd, hq]
theorem fw_last (hexec : p.tables.exec = Jvm.exec) (hb : c.code = cc) (hK : va_K D vwCl tys s) {cy : ClassId} {n : Nat} {f : Nat → Int64} (hat : va_at D vwCl (x, .inl (cy, n, .inr (.inl f))) H) (t0 : Nat) (ht : tys[t0]? = some (cy, .long)) {i : Int32} {v : Int64} (hin : vp_in i n) (hdg : decode cc pc = .ok (.lastore, 1)) (kk : ∀ (H1 : Heap) (sl : Nat), va_at D vwCl (x, .inl (cy, n, .inr (.inl (vp_updL f i.toNatClampNeg v)))) H1 → H1.size = H.size → (∀ q : Nat, q ≠ x → H1[q]? = H[q]?) → W p l e R s m args below meth c H1 (locs ++ [⟨x, sl⟩]) cells slots Q (F0 m (pc + 1) ls rest)) : W p l e R s m args below meth c H locs cells slots Q (F0 m pc ls (.long v :: .int i :: .ref x :: rest)) := by
  refine W.last hexec hb hat ((hK.2 t0 _ ht).1 n (fun j => .long (f j))) (fun q => by cases q) (by show ¬ (i < 0 ∨ (arrV _ _ _).slots.size ≤ _); rw [arrV_size]; exact hin) rfl rfl hdg fun H1 e z oq => kk H1 _ ?_ z oq
  show H1[x]? = some (vp_cell _ _)
  rw [e]
  rw [vp_cell_l, vp_cell_l, arrV_store]
  congr 2
  funext q
  by_cases hq : q = i.toNatClampNeg
  · subst hq
    simp [updV, vp_updL]
  · simp [updV, vp_updL, hq]
theorem fw_aastN0 {T : State} (X : Stand p l e R s m args below meth c T locs cells slots) (hexec : p.tables.exec = Jvm.exec) {a : Addr} {cell : Cell} {t : FieldType} {j : Int32} (hcell : T.heap[a]? = some cell) (harr : s.isArrayOf cell (.array t)) (hknown : cell.vm ≠ .unknown)
    (hin : ¬ (j < 0 ∨ cell.slots.size ≤ j.toNatClampNeg))
    {g : JFrame} (hg : g.method = m) {rest : List Value} (hstack : g.stack = .null :: .int j :: .ref a :: rest) (hdg : decode c.code g.pc = .ok (.aastore, 1)) :
    Stand p l e R s m args below meth c (T.setCell a (cell.setSlot j.toNatClampNeg .null)) (locs ++ [⟨a, j.toNatClampNeg⟩]) cells slots ∧
      ∀ target, Steps p.tables e below ((T.setCell a (cell.setSlot j.toNatClampNeg .null)).setTop { g with pc := g.pc + 1, stack := rest }) target → Steps p.tables e below (T.setTop g) target := by
  have hT := State.isArrayOf_alike X.warmed.alike harr
  have hfit : T.fitsSlot cell.cls cell.vm j.toNatClampNeg .null = true := by
    obtain ⟨hobj, k, hk, comp, hkind⟩ := hT
    cases hvm : cell.vm <;> first | exact absurd hvm (hobj _) | simp [State.fitsSlot, State.slotType?, hk, hkind, fits]
  refine ⟨X.stored hcell _ _, fun target hrest => ?_⟩
  subst hg
  jvm_step X.here [hexec, hdg]
  refine aastore.wp_of_null (c := cell) (t := .array t) X.here.top hstack hcell hT hin hknown (Nat.not_le.mp fun q => hin (Or.inr q)) hfit ?_
  intro acts
  rw [afterInstr_ok]
  exact hrest
/-- an entry of a frame's rows is written: a row, or null -/
theorem fw_aast {cA : Nat → ClassId} (hexec : p.tables.exec = Jvm.exec) (hb : c.code = cc) (hK : va_K D vwCl (rfTy cA) s) (hE : rfE cA s) {n : Nat} {f : Nat → Option Nat} (hat : va_at D vwCl (x, .inl (cA 5, n, .inr (.inr (.inr (.inr f))))) H) {i : Int32} {r len : Nat} {z : Nat → Int64} (hr : r = 0 ∨ va_at D vwCl (r - 1, .inl (cA 1, len, .inr (.inl z))) H) (hin : vp_in i n) (hdg : decode cc pc = .ok (.aastore, 1)) (kk : ∀ (H1 : Heap) (sl : Nat), va_at D vwCl (x, .inl (cA 5, n, .inr (.inr (.inr (.inr (va_up f i.toNatClampNeg (rqo r))))))) H1 → H1.size = H.size → (∀ q : Nat, q ≠ x → H1[q]? = H[q]?) → W p l e R s m args below meth c H1 (locs ++ [⟨x, sl⟩]) cells slots Q (F0 m (pc + 1) ls rest)) : W p l e R s m args below meth c H locs cells slots Q (F0 m pc ls (rq r :: .int i :: .ref x :: rest)) := by
  have hlt : i.toNatClampNeg < n := Nat.not_le.mp fun q => hin (Or.inr q)
  have h0 : ¬ i < 0 := fun q => hin (Or.inl q)
  have fin : ∀ (H1 : Heap), H1[x]? = some ((vp_cell (cA 5) (n, .inr (.inr (.inr (.inr f))))).setSlot i.toNatClampNeg (rq r)) → va_at D vwCl (x, .inl (cA 5, n, .inr (.inr (.inr (.inr (va_up f i.toNatClampNeg (rqo r))))))) H1 := by
    intro H1 e
    show H1[x]? = some (vp_cell _ _)
    rw [e]
    rw [vp_cell_q, vp_cell_q, arrV_store]
    congr 2
    funext q
    by_cases hq : q = i.toNatClampNeg
    · subst hq
      simp [updV, va_up, rq_rf]
    · simp [updV, va_up, hq]
  cases r with
  | zero =>
    intro T hT X
    have hT' : T.heap[x]? = some (vp_cell (cA 5) (n, .inr (.inr (.inr (.inr f))))) := by rw [hT]; exact hat
    obtain ⟨X', st⟩ := fw_aastN0 (t := .long) (g := F0 m pc ls (rq 0 :: .int i :: .ref x :: rest)) X hexec hT' ((hK.2 5 _ rfl).1 n (fun j => va_rf (f j))) (fun h => by cases h) (by show ¬ (i < 0 ∨ (arrV _ _ _).slots.size ≤ _); rw [arrV_size]; exact hin) rfl rfl (by rw [hb]; exact hdg)
    have hl : x < T.heap.size := (Array.getElem?_eq_some_iff.mp hT').1
    obtain ⟨t', a1, b1⟩ := kk _ i.toNatClampNeg (fin _ (heapAt_setCell_self _ hl)) (by rw [size_setCell, hT]) (fun q hq => by rw [heapAt_setCell_ne _ (Ne.symm hq), hT]) (T.setCell x _) rfl X'
    exact ⟨t', st t' a1, b1⟩
  | succ a =>
    rcases hr with hr | hr
    · cases hr
    · have hr : H[a]? = some (vp_cell (cA 1) (len, .inr (.inl z))) := hr
      obtain ⟨kA, k1, e1, e2, e3⟩ := hE
      refine W.aast (v := a) (cv := vp_cell (cA 1) (len, .inr (.inl z))) hexec hb hat (fun q h => by cases h) (fun h => by cases h) e1 e2 rfl e3 ⟨h0, by show _ < (arrV _ _ _).slots.size; rw [arrV_size]; exact hlt⟩ hr (fun q h => by cases h) e3 (fw_self _ _) rfl rfl hdg fun H1 e z oq => kk H1 _ (fin H1 e) z oq
/-- loads and stores of a row that may be null -/
theorem rq_aload (hexec : p.tables.exec = Jvm.exec) (hb : c.code = cc) {i r : Nat} (hdg : decode cc pc = .ok (.aload i, 2)) (hl : ls[i]? = some (.val (rq r))) (k : W p l e R s m args below meth c H locs cells slots Q (F0 m (pc + 2) ls (rq r :: rest))) : W p l e R s m args below meth c H locs cells slots Q (F0 m pc ls rest) := by
  cases r with
  | zero => exact lv_aloadN hexec hb hdg hl k
  | succ a => exact lv_aload hexec hb hdg hl k
theorem rq_astore (hexec : p.tables.exec = Jvm.exec) (hb : c.code = cc) {i nL r : Nat} {lv lv' : List (Nat × Value)} (hdg : decode cc pc = .ok (.astore i, 2)) (h : lv_has ls nL lv) (hn : i < nL) (hl : (i, rq r) :: lv.filter (fun q => !(q.1 == i) && !(q.1 + 1 == i && q.2.category == 2)) = lv') (k : ∀ ls', lv_has ls' nL lv' → W p l e R s m args below meth c H locs cells slots Q (F0 m (pc + 2) ls' rest)) : W p l e R s m args below meth c H locs cells slots Q (F0 m pc ls (rq r :: rest)) := by
  cases r with
  | zero => exact lv_astoreN hexec hb hdg h hn hl k
  | succ a => exact lv_astore hexec hb hdg h hn hl k
end FWR
