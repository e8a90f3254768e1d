-- cells made one behind another: cell k lies at b + k
theorem wd_push {ad : Nat → Nat} {n : Nat} {g : Nat → va_E} {e : va_E} : wd ad n g ++ [(ad n, e)] = wd ad (n + 1) (va_up g n e) := by
  unfold wd
  rw [List.range_succ, List.map_append]
  congr 1
  · apply List.map_congr_left
    intro k hk
    rw [va_up_ne _ _ (Nat.ne_of_lt (List.mem_range.mp hk))]
  · simp [va_up_self]
theorem wd_congr {ad : Nat → Nat} {n : Nat} {g g2 : Nat → va_E} (h : ∀ k, k < n → g k = g2 k) : wd ad n g = wd ad n g2 := by
  unfold wd
  apply List.map_congr_left
  intro k hk
  rw [h k (List.mem_range.mp hk)]
theorem wd_up {ad : Nat → Nat} {N : Nat} {g : Nat → va_E} {k : Nat} {e : va_E} (hk : k < N) : (wd ad N g).set k (ad k, e) = wd ad N (va_up g k e) := by
  have h := wd_set (ad := ad) (g := g) (g2 := va_up g k e) hk (fun j _ hne => va_up_ne _ _ hne)
  rw [va_up_self] at h
  exact h
def cxA (b : Nat) : Nat → Prop := fun q => b ≤ q
/-- n cells, the k-th at b + k, holding g k; nothing below b has changed; nothing lies above -/
def cxO (D : va_G) (b n : Nat) (g : Nat → va_E) (s : State) (H : Heap) (locs : List Loc) : Prop := va_P D vwCl (wd (fun k => b + k) n g) H ∧ va_S (cxA b) s.heap H locs ∧ H.size = b + n
def cxU (D : va_G) (cA : Nat → ClassId) (b n : Nat) (g : Nat → va_E) (U : State) : Prop := va_P D vwCl (wd (fun k => b + k) n g) U.heap ∧ U.heap.size = b + n ∧ va_K D vwCl (rfTy cA) U ∧ cxN U
theorem cx_D (b n : Nat) (g : Nat → va_E) : va_D (cxA b) (wd (fun k => b + k) n g) := wd_D.D ⟨fun i j _ _ h => by simpa using h, fun k _ => Nat.le_add_right b k⟩ g
theorem cxU_blind {D : va_G} {cA : Nat → ClassId} {b n : Nat} {g : Nat → va_E} {av : List Value} : FrameBlind (va_Pc av (cxU D cA b n g)) := fun a U g2 mk q => ⟨q.1, q.2.1, q.2.2.1, va_K.moved (u := U) (U := U.calling g2 mk a) (Vm.Alike.refl U.vm) q.2.2.2.1, q.2.2.2.2.same (U := U.calling g2 mk a) rfl⟩
theorem cx_preS {D : va_G} {cA : Nat → ClassId} {b n : Nat} {g : Nat → va_E} {s : State} {H : Heap} {locs : List Loc} {As : List Value} (hK : va_K D vwCl (rfTy cA) s) (hN : cxN s) (hO : cxO D b n g s H locs) : PreS s H (va_Pc As (cxU D cA b n g)) As :=
  ⟨cxU_blind, fun U hU hW => ⟨rfl, by rw [hU]; exact hO.1, by rw [hU]; exact hO.2.2, va_K.moved hW.alike hK, hN.warm hW⟩⟩
/-- behind a constructor: what the cells hold then -/
abbrev cxQ (D : va_G) (b n : Nat) (F : (Nat → va_E) → Prop) := va_Qv F (fun g t => va_P D vwCl (wd (fun k => b + k) n g) t.heap ∧ t.heap.size = b + n) (cxA b)
section CXR
variable {p : Program} {l : Launch} {e : Env} {R : Room} {s : State} {m : MethodId} {args : Array Value} {below : List Frame} {meth : Method} {c : Code} {H : Heap} {locs : List Loc} {cells slots : Nat} {Q : State → Prop}
variable {cc : ByteArray} {pc : Nat} {ls : Array Slot} {rest st0 : List Value} {D : va_G} {cA : Nat → ClassId} {b n : Nat} {g : Nat → va_E} {a : Array Value}
theorem cx_grow {H1 : Heap} {e : va_E} (hO : cxO D b n g s H locs) (hb : s.heap.size ≤ b + n) (e1 : va_at D vwCl (b + n, e) H1) (z1 : H1.size = H.size + 1) (o1 : ∀ q : Nat, q < H.size → H1[q]? = H[q]?) : cxO D b (n + 1) (va_up g n e) s H1 locs := by
  refine ⟨?_, ⟨Nat.le_trans hO.2.1.1 (by omega), fun x h1 h2 => (o1 x (Nat.lt_of_lt_of_le h1 hO.2.1.1)).trans (hO.2.1.2.1 x h1 h2), hO.2.1.2.2⟩, by rw [z1, hO.2.2]; omega⟩
  rw [← wd_push]
  refine va_P.app (hO.1.kept fun k x hx => o1 x.1 ((hO.1 k x hx).lt)) fun k x hx => ?_
  have hz : k < 1 := (List.getElem?_eq_some_iff.mp hx).1
  rw [show k = 0 by omega] at hx
  cases hx
  exact e1
theorem cx_newa (hexec : p.tables.exec = Jvm.exec) (hb : c.code = cc) {atype : ArrayType} (harr : (Cond.arrayClass (newarray.typeOf atype)).before args s = true) {cy : ClassId} (hcy : s.vm.findClass ("[" ++ (newarray.typeOf atype).toString) = some cy) (hO : cxO D b n g s H locs)
    {z : Int32} {N' : Nat} {a0 : vp_A} (ha : ∀ cA : ClassId, vp_cell cA a0 = arrV cA N' (fun _ => defaultValue (newarray.typeOf atype))) (hn : ¬ z < 0) (hN : z.toNatClampNeg = N') (hbytes : N' * componentBytes (newarray.typeOf atype) ≤ 536870912) (hcells : cells + 1 ≤ R.cells) (hslots : slots + N' ≤ R.slots) (hdg : decode cc pc = .ok (.newarray atype, 2))
    (kk : ∀ H1 : Heap, cxO D b (n + 1) (va_up g n (.inl (cy, a0))) s H1 locs → W p l e R s m args below meth c H1 locs (cells + 1) (slots + N') Q (F0 m (pc + 2) ls (.ref (b + n) :: rest))) : W p l e R s m args below meth c H locs cells slots Q (F0 m pc ls (.int z :: rest)) := by
  refine va_newaK hexec hb harr rfl hdg rfl hn hN hbytes hcells hslots hO.2.2 fun H1 cA2 e1 z1 o1 hAr hNm => ?_
  have hcc : cA2 = cy := Option.some.inj (hNm.symm.trans hcy)
  subst hcc
  refine kk H1 (cx_grow hO (hO.2.2 ▸ hO.2.1.1) ?_ (by rw [z1, hO.2.2]) (fun q hq => o1 q (by rw [← hO.2.2]; exact hq)))
  show H1[b + n]? = some (vp_cell _ _)
  rw [ha]
  exact e1
theorem cx_new {own C : String} {T : u_T} {N ci index : Nat} {Ts : List Cond} (hexec : p.tables.exec = Jvm.exec) (hb : c.code = cc) (hts : ∀ w ∈ Ts, w.before args s = true) (hin : ∀ w ∈ u_ws C T N, w ∈ Ts) (ty : Nat → FieldType) (hty : ∀ k, k < N → parseFieldDescriptor (T k).2.2.1 = some (ty k)) (hown : s.vm.findClass own = some m.cls) (hcl : (Cond.classLink own index C).before args s = true) (hinst : (Cond.instantiable C N).before args s = true) (hini : (Cond.initialized C).before args s = true)
    (hK : va_K D vwCl (rfTy cA) s) (hO : cxO D b n g s H locs) (hc : vwCl[ci]? = some (C, T, N)) {fs : List Value} (hfs : ∀ j, j < N → defaultValue (ty j) = vp_V fs j) (hcells : cells + 1 ≤ R.cells) (hslots : slots + N ≤ R.slots) (hdg : decode cc pc = .ok (.new index, 3))
    (kk : ∀ H1 : Heap, cxO D b (n + 1) (va_up g n (.inr (ci, fs))) s H1 locs → W p l e R s m args below meth c H1 locs (cells + 1) (slots + N) Q (F0 m (pc + 3) ls (.ref (b + n) :: rest))) : W p l e R s m args below meth c H locs cells slots Q (F0 m pc ls rest) := by
  have hKn := hK.1 ci _ hc
  refine W.newcK hexec hb hown hcl hinst hini rfl hdg hcells hslots hKn.2.1 hO.2.2 fun H1 kC hkC e1 z1 o1 => ?_
  exact kk H1 (cx_grow hO (hO.2.2 ▸ hO.2.1.1) ⟨_, hc, (u_born ty hts hin hKn hkC e1 hty).to hfs⟩ (by rw [z1, hO.2.2]) (fun q hq => o1 q (by rw [← hO.2.2]; exact hq)))
theorem cx_newq (hexec : p.tables.exec = Jvm.exec) (hb : c.code = cc) {own C : String} {index : Nat} (hown : s.vm.findClass own = some m.cls) (hclink : (Cond.classLink own index C).before args s = true) (hover : (Cond.arrayOver (.object C)).before args s = true) {cy : ClassId} (hcy : s.vm.findClass ("[" ++ (FieldType.object C).toString) = some cy) (hO : cxO D b n g s H locs)
    {z : Int32} {N' : Nat} (hn : ¬ z < 0) (hN : z.toNatClampNeg = N') (hbytes : N' * 4 ≤ 536870912) (hcells : cells + 1 ≤ R.cells) (hslots : slots + N' ≤ R.slots) (hdg : decode cc pc = .ok (.anewarray index, 3))
    (kk : ∀ H1 : Heap, cxO D b (n + 1) (va_up g n (.inl (cy, N', .inr (.inr (.inr (.inr (fun _ => none))))))) s H1 locs → W p l e R s m args below meth c H1 locs (cells + 1) (slots + N') Q (F0 m (pc + 3) ls (.ref (b + n) :: rest))) : W p l e R s m args below meth c H locs cells slots Q (F0 m pc ls (.int z :: rest)) := by
  subst hN
  refine W.anew hexec hb hown hclink hover rfl hdg rfl hn hbytes hcells hslots fun cA2 kA comp f1 f2 f3 f4 => ?_
  have hcc : cA2 = cy := Option.some.inj (f1.symm.trans hcy)
  subst hcc
  have hz := hO.2.2
  generalize hH1 : H.push ({ cls := cA2, slots := Array.replicate z.toNatClampNeg .null, vm := .none } : Cell) = H1
  have z1 : H1.size = H.size + 1 := by rw [← hH1, Array.size_push]
  have e1 : H1[H.size]? = some (arrV cA2 z.toNatClampNeg (fun _ => .null)) := by rw [← hH1, Array.getElem?_push_size, ← arrV_new]
  have o1 : ∀ q : Nat, q < H.size → H1[q]? = H[q]? := fun q hq => by rw [← hH1, Array.getElem?_push, if_neg (Nat.ne_of_lt hq)]
  rw [hz]
  refine kk H1 (cx_grow hO (hz ▸ hO.2.1.1) ?_ z1 o1)
  show H1[b + n]? = some (vp_cell _ _)
  rw [vp_cell_q, ← hz]
  exact e1
theorem cx_ao {U : State} {c : ClassId} {C : String} (h : va_RA U c (.object C)) : U.vm.findClass ("[" ++ (FieldType.object C).toString) = some c := by
  obtain ⟨_, _, _, _, _, h⟩ := h
  exact h
theorem cx_newA (hexec : p.tables.exec = Jvm.exec) (hb : c.code = cc) {own nm : String} {index : Nat} (hown : s.vm.findClass own = some m.cls) (hnm : (FieldType.array .long).toString = nm) (hclink : (Cond.classLink own index nm).before args s = true) (hover : (Cond.arrayOver (.array .long)).before args s = true) {cy : ClassId} (hcy : s.vm.findClass ("[" ++ (FieldType.array .long).toString) = some cy) (hO : cxO D b n g s H locs)
    {z : Int32} {N' : Nat} (hn : ¬ z < 0) (hN : z.toNatClampNeg = N') (hbytes : N' * 4 ≤ 536870912) (hcells : cells + 1 ≤ R.cells) (hslots : slots + N' ≤ R.slots) (hdg : decode cc pc = .ok (.anewarray index, 3))
    (kk : ∀ H1 : Heap, cxO D b (n + 1) (va_up g n (.inl (cy, N', .inr (.inr (.inr (.inr (fun _ => none))))))) s H1 locs → W p l e R s m args below meth c H1 locs (cells + 1) (slots + N') Q (F0 m (pc + 3) ls (.ref (b + n) :: rest))) : W p l e R s m args below meth c H locs cells slots Q (F0 m pc ls (.int z :: rest)) := by
  subst hN
  subst hnm
  refine W.anewA hexec hb hown hclink hover rfl hdg rfl hn hbytes hcells hslots fun cA2 kA comp f1 f2 f3 f4 => ?_
  have hcc : cA2 = cy := Option.some.inj (f1.symm.trans hcy)
  subst hcc
  have hz := hO.2.2
  generalize hH1 : H.push ({ cls := cA2, slots := Array.replicate z.toNatClampNeg .null, vm := .none } : Cell) = H1
  have z1 : H1.size = H.size + 1 := by rw [← hH1, Array.size_push]
  have e1 : H1[H.size]? = some (arrV cA2 z.toNatClampNeg (fun _ => .null)) := by rw [← hH1, Array.getElem?_push_size, ← arrV_new]
  have o1 : ∀ q : Nat, q < H.size → H1[q]? = H[q]? := fun q hq => by rw [← hH1, Array.getElem?_push, if_neg (Nat.ne_of_lt hq)]
  rw [hz]
  refine kk H1 (cx_grow hO (hz ▸ hO.2.1.1) ?_ z1 o1)
  show H1[b + n]? = some (vp_cell _ _)
  rw [vp_cell_q, ← hz]
  exact e1
theorem cx_put (hexec : p.tables.exec = Jvm.exec) (hb : c.code = cc) {own ref C : String} {T : u_T} {N ci index : Nat} {Ts : List Cond} (hts : ∀ w ∈ Ts, w.before args s = true) (hin : ∀ w ∈ u_ws C T N, w ∈ Ts) (ty0 : Nat → FieldType) (hty : ∀ k, k < N → parseFieldDescriptor (T k).2.2.1 = some (ty0 k)) (hnm : ∀ a, a < N → ∀ b, b < N → a ≠ b → (T a).2.1 ≠ (T b).2.1) (hown : s.vm.findClass own = some m.cls) (hK : va_K D vwCl (rfTy cA) s) (hO : cxO D b n g s H locs) {q0 : Nat} (hq : q0 < n) {fs : List Value} (he : g q0 = .inr (ci, fs)) (hc : vwCl[ci]? = some (C, T, N)) (k : Nat) (hk : k < N) (hlink : (Cond.fieldLink own index ref (T k).2.1 (T k).2.2.1).before args s = true) (hsame : ∀ x, s.fieldFound? (T k).1 (T k).2.1 (T k).2.2.1 = some x → s.fieldFound? ref (T k).2.1 (T k).2.2.1 = some x) (hfin : (T k).2.2.2 = false) {ty : FieldType} {v : Value} (hd : parseFieldDescriptor (T k).2.2.1 = some ty) (hn : narrow ty v = v) (hfit : fits ty v = true) (hl : k < fs.length)
    (hdg : decode cc pc = .ok (.putfield index, 3)) (kk : ∀ (H1 : Heap) (locs1 : List Loc), cxO D b n (va_up g q0 (.inr (ci, fs.set k v))) s H1 locs1 → H1.size = H.size → W p l e R s m args below meth c H1 locs1 cells slots Q (F0 m (pc + 3) ls rest)) : W p l e R s m args below meth c H locs cells slots Q (F0 m pc ls (v :: .ref (b + q0) :: rest)) := by
  have hP := hO.1
  have hap := va_apart (own := own) hts hin ty0 hty hnm hK hc
  have he2 := wd_get (ad := fun k => b + k) hq he
  obtain ⟨r, h1, cell, q1, q2, q3, q4⟩ := hP q0 _ he2
  have hr : r = (C, T, N) := Option.some.inj (h1.symm.trans hc)
  subst hr
  obtain ⟨hS, hfc, kC, hkC, hkind⟩ := hK.1 ci _ hc
  obtain ⟨cf, kf, fi, f, hi, hsl⟩ := hS k hk
  have hlay := hts _ (hin _ (u_in_lay hk))
  unfold u_lay at hlay
  rw [if_neg (by rw [hfin]; decide)] at hlay
  have hst := (u_facts hfc hkC (u_lays hts hin hk) hi).1
  have h6 := u_store hfc hkC hkind hlay hi hd hn hfit
  refine W.putK hexec hb (f := f) ⟨hown, hlink, ⟨_, _, _, hsame _ hi⟩, hst⟩ (by rw [q2]; exact h6) q1 q3 (by rw [hsl]; exact k2_hasslot (q4 k hk)) rfl rfl hdg fun H' e1 e2 e3 => ?_
  rw [hsl] at e1 ⊢
  refine kk H' _ ⟨?_, hO.2.1.put e2 e3 (Nat.le_add_right b q0), by rw [e2]; exact hO.2.2⟩ e2
  rw [← wd_up (ad := fun k => b + k) hq]
  exact hP.set (cx_D b n g) he2 ⟨_, hc, t_OB.to (V := updV (vp_V fs) k v) ⟨_, e1, q2, q3, t_set q4 hap hk v⟩ (fun j _ => vp_updV_set hl v j)⟩ e3
theorem cx_putF (hexec : p.tables.exec = Jvm.exec) (hb : c.code = cc) {own ref C : String} {T : u_T} {N ci index : Nat} {Ts : List Cond} (hts : ∀ w ∈ Ts, w.before args s = true) (hin : ∀ w ∈ u_ws C T N, w ∈ Ts) (ty0 : Nat → FieldType) (hty : ∀ k, k < N → parseFieldDescriptor (T k).2.2.1 = some (ty0 k)) (hnm : ∀ a, a < N → ∀ b, b < N → a ≠ b → (T a).2.1 ≠ (T b).2.1) (hown : s.vm.findClass own = some m.cls) (hK : va_K D vwCl (rfTy cA) s) (hO : cxO D b n g s H locs) {q0 : Nat} (hq : q0 < n) {fs : List Value} (he : g q0 = .inr (ci, fs)) (hc : vwCl[ci]? = some (C, T, N)) (k : Nat) (hk : k < N) (hlink : (Cond.fieldLink own index ref (T k).2.1 (T k).2.2.1).before args s = true) (hsame : ∀ x, s.fieldFound? (T k).1 (T k).2.1 (T k).2.2.1 = some x → s.fieldFound? ref (T k).2.1 (T k).2.2.1 = some x) (hfin : (T k).2.2.2 = true) (hin2 : meth.name = "<init>") (hdecl : (T k).1 = own) {ty : FieldType} {v : Value} (hd : parseFieldDescriptor (T k).2.2.1 = some ty) (hn : narrow ty v = v) (hfit : fits ty v = true) (hl : k < fs.length)
    (hdg : decode cc pc = .ok (.putfield index, 3)) (kk : ∀ (H1 : Heap) (locs1 : List Loc), cxO D b n (va_up g q0 (.inr (ci, fs.set k v))) s H1 locs1 → H1.size = H.size → W p l e R s m args below meth c H1 locs1 cells slots Q (F0 m (pc + 3) ls rest)) : W p l e R s m args below meth c H locs cells slots Q (F0 m pc ls (v :: .ref (b + q0) :: rest)) := by
  have hP := hO.1
  have hap := va_apart (own := own) hts hin ty0 hty hnm hK hc
  have he2 := wd_get (ad := fun k => b + k) hq he
  obtain ⟨r, h1, cell, q1, q2, q3, q4⟩ := hP q0 _ he2
  have hr : r = (C, T, N) := Option.some.inj (h1.symm.trans hc)
  subst hr
  obtain ⟨hS, hfc, kC, hkC, hkind⟩ := hK.1 ci _ hc
  obtain ⟨cf, kf, fi, f, hi, hsl⟩ := hS k hk
  have hlay := hts _ (hin _ (u_in_lay hk))
  unfold u_lay at hlay
  rw [if_pos hfin] at hlay
  have hst := (u_facts hfc hkC (u_lays hts hin hk) hi).1
  have hcf : m.cls = cf := by
    obtain ⟨_, _, c', _, _, _, -, -, hf', -, -, -, hown2, -⟩ := Cond.laysFinal_spec hlay
    have e1 : c' = cf := by have := hi.symm.trans hf'; simp at this; exact this.1.symm
    rw [hdecl] at hown2
    rw [← e1]; exact Option.some.inj (hown.symm.trans hown2)
  have h6 := u_fits hfc hkC hkind (Or.inr hlay) hi hd hn hfit
  refine W.putFinK hexec hb hown hlink (hsame _ hi) hst hcf hin2 (by rw [q2]; exact h6) q1 q3 (by rw [hsl]; exact k2_hasslot (q4 k hk)) rfl rfl hdg fun H' e1 e2 e3 => ?_
  rw [hsl] at e1 ⊢
  refine kk H' _ ⟨?_, hO.2.1.put e2 e3 (Nat.le_add_right b q0), by rw [e2]; exact hO.2.2⟩ e2
  rw [← wd_up (ad := fun k => b + k) hq]
  exact hP.set (cx_D b n g) he2 ⟨_, hc, t_OB.to (V := updV (vp_V fs) k v) ⟨_, e1, q2, q3, t_set q4 hap hk v⟩ (fun j _ => vp_updV_set hl v j)⟩ e3
theorem cx_callv {mc ms n2 : Nat} {F : (Nat → va_E) → Prop} (hr : va_Run p l e R s m args below meth c H locs cells slots mc ms (F0 m pc ls st0) rest (cxQ D b n2 F a) (cxA b)) (hO : cxO D b n g s H locs) (kk : ∀ (g2 : Nat → va_E) (H1 : Heap) (locs1 : List Loc), F g2 → cxO D b n2 g2 s H1 locs1 → W p l e R s m args below meth c H1 locs1 (cells + mc) (slots + ms) Q (F0 m (pc + 3) ls rest)) : W p l e R s m args below meth c H locs cells slots Q (F0 m pc ls st0) :=
  va_callv hr hO.2.1 (fun _ _ h => h) (fun _ h => h) (fun g2 t H1 locs1 ht hvm hp hB _ _ hS => kk g2 H1 locs1 hp ⟨by rw [← ht]; exact hB.1, hS, by rw [← ht]; exact hB.2⟩)
theorem cx_vret {F : (Nat → va_E) → Prop} (hx : p.tables.exec = Jvm.exec) (hb : c.code = cc) (hr : meth.sig.returnType = none) (hlocks : meth.locks = false) (hO : cxO D b n g s H locs) (hF : F g) (hdg : decode cc pc = .ok (.return_, 1)) : W p l e R s m args below meth c H locs cells slots (MQ below (cxQ D b n F) args s cells slots (cxA b)) (F0 m pc ls []) :=
  W.vret hx hb hr (fun t ht hW => ⟨⟨g, rfl, hF, by subst ht; exact hO.1, by subst ht; exact hO.2.2⟩, hO.2.1.F ht⟩) hO.2.1.2.2 hdg hlocks
end CXR
