/-- 1 where v lies within lo .. hi, else 0 -/
def wi (v lo hi : Int32) : Int32 := if v < lo then 0 else if hi < v then 0 else 1
theorem nar_wi (v lo hi : Int32) : narrow .boolean (.int (wi v lo hi)) = .int (wi v lo hi) := by
  unfold wi
  split
  · rfl
  · split <;> rfl
theorem wi_neg (v : Int32) : wi v 0 (-1) = 0 := by
  unfold wi
  split
  · rfl
  · rename_i h
    have h0 : (0 : Int32) ≤ v := Int32.not_lt.mp h
    rw [if_pos]
    exact Int32.lt_of_lt_of_le (by decide) h0
theorem nn_le {x : Int32} (h : ¬ x < 0) : 0 ≤ x := Int32.not_lt.mp h
theorem wi_le {v lo hi : Int32} (h : ¬ wi v lo hi = 0) : v ≤ hi := by
  unfold wi at h
  by_cases h1 : v < lo
  · rw [if_pos h1] at h; exact absurd rfl h
  · rw [if_neg h1] at h
    by_cases h2 : hi < v
    · rw [if_pos h2] at h; exact absurd rfl h
    · exact Int32.not_lt.mp h2
theorem i32_sand {n k j : Int32} (h1 : ¬ n ≤ j) (h2 : n ≤ k) (hjk : j.toInt + 1 = k.toInt) : n = k := by
  apply Int32.toInt_inj.mp
  have a1 : ¬ n.toInt ≤ j.toInt := fun h => h1 (Int32.le_iff_toInt_le.mpr h)
  have a2 : n.toInt ≤ k.toInt := Int32.le_iff_toInt_le.mp h2
  omega
theorem vpc {i : Int32} {n : Nat} (h : ¬ (i < 0 ∨ n ≤ i.toNatClampNeg)) : vp_in i n := h
section MYROWS
variable {p : Program} {l : Launch} {e : Env} {R : Room} {s : State} {m : MethodId} {args : Array Value} {below : List Frame} {meth : Method} {c : Code} {H : Heap} {locs : List Loc} {cells slots : Nat} {Q : State → Prop}
variable {cc : ByteArray} {pc : Nat} {ls : Array Slot} {rest : List Value} {D : va_G} {cl : List vw_C} {A : Nat → Prop} {a : Nat} {tys : List (ClassId × FieldType)} {ws : va_W} {H0 : Heap}
theorem my_top {x v : Int32} (h : x = v) (k : W p l e R s m args below meth c H locs cells slots Q (F0 m pc ls (.int v :: rest))) : W p l e R s m args below meth c H locs cells slots Q (F0 m pc ls (.int x :: rest)) := by
  subst h; exact k
theorem my_any {x v : Value} (h : x = v) (k : W p l e R s m args below meth c H locs cells slots Q (F0 m pc ls (v :: rest))) : W p l e R s m args below meth c H locs cells slots Q (F0 m pc ls (x :: rest)) := by
  subst h; exact k
theorem my_heap {H' : Heap} {g : JFrame} (h : H = H') (k : W p l e R s m args below meth c H locs cells slots Q g) : W p l e R s m args below meth c H' locs cells slots Q g := by
  subst h; exact k
theorem my_aald (hexec : p.tables.exec = Jvm.exec) (hb : c.code = cc) (hK : va_K D cl tys s) (hP : va_P D cl ws H) (q0 t0 : Nat) {cA : ClassId} {t : FieldType} {n : Nat} {f : Nat → Option Nat} (ha : ws[q0]? = some (a, .inl (cA, n, .inr (.inr (.inr (.inr f)))))) (ht : tys[t0]? = some (cA, .array t)) {i : Int32} (hin : vp_in i n) (hdg : decode cc pc = .ok (.aaload, 1))
    (kk : W p l e R s m args below meth c H locs cells slots Q (F0 m (pc + 1) ls (va_rf (f i.toNatClampNeg) :: rest))) : W p l e R s m args below meth c H locs cells slots Q (F0 m pc ls (.int i :: .ref a :: rest)) := by
  have hlt : i.toNatClampNeg < n := Nat.not_le.mp fun q => hin (Or.inr q)
  exact W.aald (v := va_rf (f i.toNatClampNeg)) (ty := .array t) hexec hb (hP q0 _ ha) ((hK.2 t0 _ ht).1 n (fun j => va_rf (f j))) rfl (fun q => by cases q) (by show ¬ (i < 0 ∨ (arrV _ _ _).slots.size ≤ _); rw [arrV_size]; exact hin) (by show (arrV _ _ _).slots[_]? = _; rw [arrV_read _ _ hlt]) rfl rfl hdg kk
end MYROWS
theorem my_AO.moved {t : FieldType} {s U : State} (hvm : s.vm.Alike U.vm) (h : (Cond.arrayOver (.array t)).before #[] s = true) : (Cond.arrayOver (.array t)).before #[] U = true := by
  have h1 : (Cond.arrayOver (.array t)).before #[] (s.setVm U.vm) = true := (Cond.arrayOver_setVmC hvm _).trans h
  first | exact h1 | (simp only [Cond.before, Cond.holds, Cond.value] at h1 ⊢; exact h1)
theorem t_multi : True := by
  have := @Jvm.Stand.multianewarray2F
  trivial
