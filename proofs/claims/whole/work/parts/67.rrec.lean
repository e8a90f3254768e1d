/-- ran, by the depth of the calls below it -/
def j_Mo_ran : Nat → Nat → Int64 → CwS → Option (Int32 × CwS)
  | 0, _, _, _ => none
  | d + 1, f, v, st => j_Mo_ranB (j_Mo_ran d) f v st
theorem x_Mo_ran : ∀ (d : Nat) (f : Nat) (v : Int64) (st : CwS) (r : Int32) (st' : CwS), j_Mo_ran d f v st = some (r, st') → Ext st st' := by
  intro d
  induction d with
  | zero =>
    intro f v st r st' h
    cases h
  | succ d ih =>
    intro f v st r st' h
    exact x_Mo_ranB ih h
set_option maxHeartbeats 4000000 in
theorem c_Mo_ran (l : Launch) (D : va_G) (A : Nat → Prop) (b0 : Nat) (cA : Nat → ClassId) : ∀ (d : Nat) (st0 : CwS) (f fa : Nat) (hf : rfF st0 f fa) (v : Int64) (r : Int32) (st' : CwS), j_Mo_ran d f v st0 = some (r, st') → Met l yX9_ran (wv yX9_ran cX9_ran 6 (some .int)) ({ frames := 5 * d + 10, cells := gR st' 101 2 - gR st0 101 2, slots := gR st' 101 3 - gR st0 101 3, locals := 139 * d + 200 }) (va_Pc [.ref b0, .ref fa, .long v] (rfU D A b0 cA st0)) (rfQi D A b0 cA r st') (gR st' 101 2 - gR st0 101 2) (gR st' 101 3 - gR st0 101 3) A := by
  intro d
  induction d with
  | zero =>
    intro st0 f fa hf v r st' h
    cases h
  | succ d ih =>
    intro st0 f fa hf v r st' h
    have e1 : 5 * (d + 1) + 10 = 5 * d + 15 := by omega
    have e2 : 139 * (d + 1) + 200 = 139 * d + 339 := by omega
    rw [e1, e2]
    exact c_Mo_ranB l D A b0 cA (j_Mo_ran d) d (x_Mo_ran d) ih st0 f fa hf v r st' h
