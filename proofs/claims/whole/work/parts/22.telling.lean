/-! what a telling does: become, an event more, events by a seed, weights, masks -/
def wh (T : TD) (h : Nat → Nat) : TD := (h, T.2)
def wso (T : TD) (f : Nat → Nat) : TD := (th T, f, T.2.2)
def wla (T : TD) (f : Nat → Nat) : TD := (th T, tso T, tbu T, f, T.2.2.2.2)
def wlo (T : TD) (n : Nat) : TD := (th T, tso T, tbu T, tla T, tst T, tek T, tew T, teb T, tnb T, tne T, n)
def wev (T : TD) (ne : Nat) (ek ew eb : Nat → Nat) : TD := (th T, tso T, tbu T, tla T, tst T, ek, ew, eb, tnb T, ne, tlo T)
abbrev TL : List Nat := [14, 15, 16, 17, 18, 19, 20, 21, 22]
theorem cpy0 {f g : Nat → Int32} {n j : Nat} (h : j < n) : va_cpy f g 0 0 n j = f j := by
  rw [pk_cpy_in (Nat.zero_le _) (by omega), Nat.zero_add, Nat.sub_zero]
set_option maxHeartbeats 2000000 in
theorem c_become (S : ST) (T : TD) (hT : TR 5 T S) (hto : tok T) (hne : tne T ≤ 8) : EX me_T_become 1 [.ref 14, .ref 5] S (fun r u => r = none ∧ TR 14 T u ∧ fr TL S u ∧ u.2 = S.2) := by
  refine EX.of mok_T_become (Nat.le_of_ble_eq_true rfl) ?_
  obtain ⟨n8, n9, hbt, het, hht, hlo⟩ := id hto
  obtain ⟨t1, t2, t3, t4, t5, t6, t7, t8, t9, t10, t11⟩ := id hT
  refine run_ok 7 (c' := (12, [(0, .ref 14), (1, .ref 5)], [.int (nI 64), .int (nI 0), .ref 15, .int (nI 0), .ref 6], S)) rfl ?_
  refine x_copyN rfl lk_3_49 rfl rfl (by decide) (by decide) (by omega) (by omega) (Nat.le_of_ble_eq_true rfl) (by decide) ?_
  refine run_ok 7 (c' := (27, [(0, .ref 14), (1, .ref 5)], [.int (nI 8), .int (nI 0), .ref 16, .int (nI 0), .ref 7], (rwr S 15 (va_cpy (S.1 6) (S.1 15) 0 0 64)))) rfl ?_
  refine x_copyN rfl lk_3_49 rfl rfl (by decide) (by decide) (by omega) (by omega) (Nat.le_of_ble_eq_true rfl) (by decide) ?_
  refine run_ok 7 (c' := (42, [(0, .ref 14), (1, .ref 5)], [.int (nI 8), .int (nI 0), .ref 17, .int (nI 0), .ref 8], (rwr (rwr S 15 (va_cpy (S.1 6) (S.1 15) 0 0 64)) 16 (va_cpy (S.1 7) (S.1 16) 0 0 8)))) rfl ?_
  refine x_copyN rfl lk_3_49 rfl rfl (by decide) (by decide) (by omega) (by omega) (Nat.le_of_ble_eq_true rfl) (by decide) ?_
  refine run_ok 7 (c' := (57, [(0, .ref 14), (1, .ref 5)], [.int (nI 8), .int (nI 0), .ref 18, .int (nI 0), .ref 9], (rwr (rwr (rwr S 15 (va_cpy (S.1 6) (S.1 15) 0 0 64)) 16 (va_cpy (S.1 7) (S.1 16) 0 0 8)) 17 (va_cpy (S.1 8) (S.1 17) 0 0 8)))) rfl ?_
  refine x_copyN rfl lk_3_49 rfl rfl (by decide) (by decide) (by omega) (by omega) (Nat.le_of_ble_eq_true rfl) (by decide) ?_
  refine run_ok 7 (c' := (72, [(0, .ref 14), (1, .ref 5)], [.int (nI 8), .int (nI 0), .ref 19, .int (nI 0), .ref 10], (rwr (rwr (rwr (rwr S 15 (va_cpy (S.1 6) (S.1 15) 0 0 64)) 16 (va_cpy (S.1 7) (S.1 16) 0 0 8)) 17 (va_cpy (S.1 8) (S.1 17) 0 0 8)) 18 (va_cpy (S.1 9) (S.1 18) 0 0 8)))) rfl ?_
  refine x_copyN rfl lk_3_49 rfl rfl (by decide) (by decide) (by omega) (by omega) (Nat.le_of_ble_eq_true rfl) (by decide) ?_
  refine run_ok 11 (c' := (95, [(0, .ref 14), (1, .ref 5)], [.int (nI 8), .int (nI 0), .ref 20, .int (nI 0), .ref 11], (pt (rwr (rwr (rwr (rwr (rwr S 15 (va_cpy (S.1 6) (S.1 15) 0 0 64)) 16 (va_cpy (S.1 7) (S.1 16) 0 0 8)) 17 (va_cpy (S.1 8) (S.1 17) 0 0 8)) 18 (va_cpy (S.1 9) (S.1 18) 0 0 8)) 19 (va_cpy (S.1 10) (S.1 19) 0 0 8)) 14 6 (S.1 5 6)))) rfl ?_
  refine x_copyN rfl lk_3_49 rfl rfl (by decide) (by decide) (by omega) (by omega) (Nat.le_of_ble_eq_true rfl) (by decide) ?_
  refine run_ok 7 (c' := (110, [(0, .ref 14), (1, .ref 5)], [.int (nI 8), .int (nI 0), .ref 21, .int (nI 0), .ref 12], (rwr (pt (rwr (rwr (rwr (rwr (rwr S 15 (va_cpy (S.1 6) (S.1 15) 0 0 64)) 16 (va_cpy (S.1 7) (S.1 16) 0 0 8)) 17 (va_cpy (S.1 8) (S.1 17) 0 0 8)) 18 (va_cpy (S.1 9) (S.1 18) 0 0 8)) 19 (va_cpy (S.1 10) (S.1 19) 0 0 8)) 14 6 (S.1 5 6)) 20 (va_cpy (S.1 11) (S.1 20) 0 0 8)))) rfl ?_
  refine x_copyN rfl lk_3_49 rfl rfl (by decide) (by decide) (by omega) (by omega) (Nat.le_of_ble_eq_true rfl) (by decide) ?_
  refine run_ok 7 (c' := (125, [(0, .ref 14), (1, .ref 5)], [.int (nI 8), .int (nI 0), .ref 22, .int (nI 0), .ref 13], (rwr (rwr (pt (rwr (rwr (rwr (rwr (rwr S 15 (va_cpy (S.1 6) (S.1 15) 0 0 64)) 16 (va_cpy (S.1 7) (S.1 16) 0 0 8)) 17 (va_cpy (S.1 8) (S.1 17) 0 0 8)) 18 (va_cpy (S.1 9) (S.1 18) 0 0 8)) 19 (va_cpy (S.1 10) (S.1 19) 0 0 8)) 14 6 (S.1 5 6)) 20 (va_cpy (S.1 11) (S.1 20) 0 0 8)) 21 (va_cpy (S.1 12) (S.1 21) 0 0 8)))) rfl ?_
  refine x_copyN rfl lk_3_49 rfl rfl (by decide) (by decide) (by omega) (by omega) (Nat.le_of_ble_eq_true rfl) (by decide) ?_
  refine run_ok 8 (c' := (144, [(0, .ref 14), (1, .ref 5)], [], (pt (pt (rwr (rwr (rwr (pt (rwr (rwr (rwr (rwr (rwr S 15 (va_cpy (S.1 6) (S.1 15) 0 0 64)) 16 (va_cpy (S.1 7) (S.1 16) 0 0 8)) 17 (va_cpy (S.1 8) (S.1 17) 0 0 8)) 18 (va_cpy (S.1 9) (S.1 18) 0 0 8)) 19 (va_cpy (S.1 10) (S.1 19) 0 0 8)) 14 6 (S.1 5 6)) 20 (va_cpy (S.1 11) (S.1 20) 0 0 8)) 21 (va_cpy (S.1 12) (S.1 21) 0 0 8)) 22 (va_cpy (S.1 13) (S.1 22) 0 0 8)) 14 10 (S.1 5 10)) 14 11 (S.1 5 11)))) rfl ?_
  refine x_ret (r := none) rfl rfl trivial ?_ rfl
  refine ⟨rfl, ⟨fun j hj => (cpy0 hj).trans (t1 j hj), fun j hj => (cpy0 (by omega)).trans (t2 j hj), fun j hj => (cpy0 (by omega)).trans (t3 j hj), fun j hj => (cpy0 (by omega)).trans (t4 j hj), fun j hj => (cpy0 (by omega)).trans (t5 j hj), fun j hj => (cpy0 (by omega)).trans (t6 j hj), fun j hj => (cpy0 (by omega)).trans (t7 j hj), fun j hj => (cpy0 (by omega)).trans (t8 j hj), t9, t10, t11⟩, ?_, rfl⟩
  refine fr.pt (fr.pt (fr.rwr (fr.rwr (fr.rwr (fr.pt (fr.rwr (fr.rwr (fr.rwr (fr.rwr (fr.rwr fr.rf ?_) ?_) ?_) ?_) ?_) ?_) ?_) ?_) ?_) ?_) ?_ <;> decide

set_option maxHeartbeats 2000000 in
theorem c_addEvent5 (S : ST) (T : TD) (kd w b : Nat) (hT : TR 5 T S) (hne : tne T ≤ 8) : EX me_T_addEvent 0 [.ref 5, .int (nI kd), .int (nI w), .int (nI b)] S (fun r u => r = none ∧ TR 5 (wev T (tne T + 1) (upn (tek T) (tne T) kd) (upn (tew T) (tne T) w) (upn (teb T) (tne T) b)) u ∧ fr [5, 11, 12, 13] S u ∧ u.2 = S.2) := by
  refine EX.of mok_T_addEvent (Nat.le_of_ble_eq_true rfl) ?_
  obtain ⟨t1, t2, t3, t4, t5, t6, t7, t8, t9, t10, t11⟩ := id hT
  refine run_ok 2 (c' := (4, [(0, .ref 5), (1, .int (nI kd)), (2, .int (nI w)), (3, .int (nI b))], [.int (S.1 5 10)], S)) rfl ?_
  refine x_top (v' := nI (tne T)) t10 ?_
  refine run_ok 1 (c' := (6, [(0, .ref 5), (1, .int (nI kd)), (2, .int (nI w)), (3, .int (nI b))], [.int (nI 8), .int (nI (tne T))], S)) rfl ?_
  refine x_icmpN_gt 49 rfl rfl (by omega) (by omega) (fun hn => absurd hn (show ¬ 8 < tne T by omega)) (fun h6 => ?_)
  refine run_ok 4 (c' := (17, [(0, .ref 5), (1, .int (nI kd)), (2, .int (nI w)), (3, .int (nI b))], [.int (S.1 5 10), .ref 11], S)) rfl ?_
  refine x_top (v' := nI (tne T)) t10 ?_
  refine run_ok 1 (c' := (18, [(0, .ref 5), (1, .int (nI kd)), (2, .int (nI w)), (3, .int (nI b))], [.int (nI kd), .int (nI (tne T)), .ref 11], S)) rfl ?_
  refine x_isN rfl rfl (by decide) (by omega) ?_
  refine run_ok 4 (c' := (27, [(0, .ref 5), (1, .int (nI kd)), (2, .int (nI w)), (3, .int (nI b))], [.int (S.1 5 10), .ref 12], (pt S 11 (tne T) (nI kd)))) rfl ?_
  refine x_top (v' := nI (tne T)) t10 ?_
  refine run_ok 1 (c' := (28, [(0, .ref 5), (1, .int (nI kd)), (2, .int (nI w)), (3, .int (nI b))], [.int (nI w), .int (nI (tne T)), .ref 12], (pt S 11 (tne T) (nI kd)))) rfl ?_
  refine x_isN rfl rfl (by decide) (by omega) ?_
  refine run_ok 4 (c' := (37, [(0, .ref 5), (1, .int (nI kd)), (2, .int (nI w)), (3, .int (nI b))], [.int (S.1 5 10), .ref 13], (pt (pt S 11 (tne T) (nI kd)) 12 (tne T) (nI w)))) rfl ?_
  refine x_top (v' := nI (tne T)) t10 ?_
  refine run_ok 1 (c' := (38, [(0, .ref 5), (1, .int (nI kd)), (2, .int (nI w)), (3, .int (nI b))], [.int (nI b), .int (nI (tne T)), .ref 13], (pt (pt S 11 (tne T) (nI kd)) 12 (tne T) (nI w)))) rfl ?_
  refine x_isN rfl rfl (by decide) (by omega) ?_
  refine run_ok 3 (c' := (44, [(0, .ref 5), (1, .int (nI kd)), (2, .int (nI w)), (3, .int (nI b))], [.int (S.1 5 10), .ref 5], (pt (pt (pt S 11 (tne T) (nI kd)) 12 (tne T) (nI w)) 13 (tne T) (nI b)))) rfl ?_
  refine x_top (v' := nI (tne T)) t10 ?_
  refine run_ok 2 (c' := (46, [(0, .ref 5), (1, .int (nI kd)), (2, .int (nI w)), (3, .int (nI b))], [.int ((nI (tne T)) + (nI 1)), .ref 5], (pt (pt (pt S 11 (tne T) (nI kd)) 12 (tne T) (nI w)) 13 (tne T) (nI b)))) rfl ?_
  refine x_top (v' := nI ((tne T) + 1)) (nI_add _ _) ?_
  refine run_ok 1 (c' := (49, [(0, .ref 5), (1, .int (nI kd)), (2, .int (nI w)), (3, .int (nI b))], [], (pt (pt (pt (pt S 11 (tne T) (nI kd)) 12 (tne T) (nI w)) 13 (tne T) (nI b)) 5 10 (nI ((tne T) + 1))))) rfl ?_
  refine x_ret (r := none) rfl rfl trivial ?_ rfl
  have ex : ∀ (f : Nat → Nat) (x v : Nat) (k : Nat), rh S k (tne T) f → ∀ j, j < tne T + 1 → upd (S.1 k) (tne T) (nI v) j = nI (upn f (tne T) v j) := by
    intro f x v k h j hj
    unfold upd upn
    split
    · rfl
    · exact h j (by omega)
  refine ⟨rfl, ⟨t1, t2, t3, t4, t5, ex _ 0 _ _ t6, ex _ 0 _ _ t7, ex _ 0 _ _ t8, t9, rfl, t11⟩, ?_, rfl⟩
  refine fr.pt (fr.pt (fr.pt (fr.pt fr.rf ?_) ?_) ?_) ?_ <;> decide

set_option maxHeartbeats 2000000 in
theorem c_addEvent14 (S : ST) (T : TD) (kd w b : Nat) (hT : TR 14 T S) (hne : tne T ≤ 8) : EX me_T_addEvent 0 [.ref 14, .int (nI kd), .int (nI w), .int (nI b)] S (fun r u => r = none ∧ TR 14 (wev T (tne T + 1) (upn (tek T) (tne T) kd) (upn (tew T) (tne T) w) (upn (teb T) (tne T) b)) u ∧ fr [14, 20, 21, 22] S u ∧ u.2 = S.2) := by
  refine EX.of mok_T_addEvent (Nat.le_of_ble_eq_true rfl) ?_
  obtain ⟨t1, t2, t3, t4, t5, t6, t7, t8, t9, t10, t11⟩ := id hT
  refine run_ok 2 (c' := (4, [(0, .ref 14), (1, .int (nI kd)), (2, .int (nI w)), (3, .int (nI b))], [.int (S.1 14 10)], S)) rfl ?_
  refine x_top (v' := nI (tne T)) t10 ?_
  refine run_ok 1 (c' := (6, [(0, .ref 14), (1, .int (nI kd)), (2, .int (nI w)), (3, .int (nI b))], [.int (nI 8), .int (nI (tne T))], S)) rfl ?_
  refine x_icmpN_gt 49 rfl rfl (by omega) (by omega) (fun hn => absurd hn (show ¬ 8 < tne T by omega)) (fun h6 => ?_)
  refine run_ok 4 (c' := (17, [(0, .ref 14), (1, .int (nI kd)), (2, .int (nI w)), (3, .int (nI b))], [.int (S.1 14 10), .ref 20], S)) rfl ?_
  refine x_top (v' := nI (tne T)) t10 ?_
  refine run_ok 1 (c' := (18, [(0, .ref 14), (1, .int (nI kd)), (2, .int (nI w)), (3, .int (nI b))], [.int (nI kd), .int (nI (tne T)), .ref 20], S)) rfl ?_
  refine x_isN rfl rfl (by decide) (by omega) ?_
  refine run_ok 4 (c' := (27, [(0, .ref 14), (1, .int (nI kd)), (2, .int (nI w)), (3, .int (nI b))], [.int (S.1 14 10), .ref 21], (pt S 20 (tne T) (nI kd)))) rfl ?_
  refine x_top (v' := nI (tne T)) t10 ?_
  refine run_ok 1 (c' := (28, [(0, .ref 14), (1, .int (nI kd)), (2, .int (nI w)), (3, .int (nI b))], [.int (nI w), .int (nI (tne T)), .ref 21], (pt S 20 (tne T) (nI kd)))) rfl ?_
  refine x_isN rfl rfl (by decide) (by omega) ?_
  refine run_ok 4 (c' := (37, [(0, .ref 14), (1, .int (nI kd)), (2, .int (nI w)), (3, .int (nI b))], [.int (S.1 14 10), .ref 22], (pt (pt S 20 (tne T) (nI kd)) 21 (tne T) (nI w)))) rfl ?_
  refine x_top (v' := nI (tne T)) t10 ?_
  refine run_ok 1 (c' := (38, [(0, .ref 14), (1, .int (nI kd)), (2, .int (nI w)), (3, .int (nI b))], [.int (nI b), .int (nI (tne T)), .ref 22], (pt (pt S 20 (tne T) (nI kd)) 21 (tne T) (nI w)))) rfl ?_
  refine x_isN rfl rfl (by decide) (by omega) ?_
  refine run_ok 3 (c' := (44, [(0, .ref 14), (1, .int (nI kd)), (2, .int (nI w)), (3, .int (nI b))], [.int (S.1 14 10), .ref 14], (pt (pt (pt S 20 (tne T) (nI kd)) 21 (tne T) (nI w)) 22 (tne T) (nI b)))) rfl ?_
  refine x_top (v' := nI (tne T)) t10 ?_
  refine run_ok 2 (c' := (46, [(0, .ref 14), (1, .int (nI kd)), (2, .int (nI w)), (3, .int (nI b))], [.int ((nI (tne T)) + (nI 1)), .ref 14], (pt (pt (pt S 20 (tne T) (nI kd)) 21 (tne T) (nI w)) 22 (tne T) (nI b)))) rfl ?_
  refine x_top (v' := nI ((tne T) + 1)) (nI_add _ _) ?_
  refine run_ok 1 (c' := (49, [(0, .ref 14), (1, .int (nI kd)), (2, .int (nI w)), (3, .int (nI b))], [], (pt (pt (pt (pt S 20 (tne T) (nI kd)) 21 (tne T) (nI w)) 22 (tne T) (nI b)) 14 10 (nI ((tne T) + 1))))) rfl ?_
  refine x_ret (r := none) rfl rfl trivial ?_ rfl
  have ex : ∀ (f : Nat → Nat) (x v : Nat) (k : Nat), rh S k (tne T) f → ∀ j, j < tne T + 1 → upd (S.1 k) (tne T) (nI v) j = nI (upn f (tne T) v j) := by
    intro f x v k h j hj
    unfold upd upn
    split
    · rfl
    · exact h j (by omega)
  refine ⟨rfl, ⟨t1, t2, t3, t4, t5, ex _ 0 _ _ t6, ex _ 0 _ _ t7, ex _ 0 _ _ t8, t9, rfl, t11⟩, ?_, rfl⟩
  refine fr.pt (fr.pt (fr.pt (fr.pt fr.rf ?_) ?_) ?_) ?_ <;> decide

def nsd (x : Int32) : Int32 := nI 1103515245 * x + nI 12345
def lot (x : Int32) : Nat := x.toBitVec.toNat / 65536
theorem lot_lt (x : Int32) : lot x < 65536 := by have := x.toBitVec.isLt; unfold lot; omega
theorem lot_e (x : Int32) : (x.toUInt32 >>> ((nI 16).toUInt32 &&& Int32.toUInt32 31)).toInt32 = nI (lot x) := by
  apply Int32.toBitVec_inj.1
  apply BitVec.eq_of_toNat_eq
  rw [pk_ushr x (nI 16) 16 (by decide), pk_tn (by have := lot_lt x; omega)]
  rfl
theorem c_nextSeed (S : ST) (x : Int32) : EX me_T_nextSeed 0 [.int x] S (fun r u => r = some (.int (nsd x)) ∧ u = S) := by
  refine EX.of mok_T_nextSeed (Nat.le_of_ble_eq_true rfl) ?_
  refine run_ok 5 (c' := (8, [(0, .int x)], [.int (((nI 1103515245) * x) + (nI 12345))], S)) rfl ?_
  exact x_ret (r := some (.int (((nI 1103515245) * x) + (nI 12345)))) rfl rfl trivial ⟨rfl, rfl⟩ rfl

def mrow (T : TD) (w : Nat) : Nat → Nat
  | 0 => 0
  | k + 1 => mrow T w k + (if tla T k ≤ w then 15 * 16 ^ k else 0)
theorem mrow_e (T : TD) (w : Nat) : ∀ k, mrow T w k = nro (fun j => if tla T j ≤ w then 15 else 0) k := by
  intro k
  induction k with
  | zero => rfl
  | succ k ih =>
    show mrow T w k + (if tla T k ≤ w then 15 * 16 ^ k else 0) = nro _ k + (if tla T k ≤ w then 15 else 0) * 16 ^ k
    rw [ih]
    split <;> simp
set_option maxHeartbeats 2000000 in
theorem c_rowMask (S : ST) (T : TD) (w : Nat) (hT : TR 5 T S) (hto : tok T) (hw : w < 24) : EX me_T_rowMask 0 [.ref 5, .int (nI w)] S (fun r u => r = some (.int (nI (mrow T w (tnb T)))) ∧ u = S) := by
  refine EX.of mok_T_rowMask (Nat.le_of_ble_eq_true rfl) ?_
  obtain ⟨n8, n9, hbt, het, hht, hlo⟩ := id hto
  obtain ⟨t1, t2, t3, t4, t5, t6, t7, t8, t9, t10, t11⟩ := id hT
  have H : ∀ i, i ≤ tnb T → BX me_T_rowMask 0 none (fun r u => r = some (.int (nI (mrow T w (tnb T)))) ∧ u = S) (4, [(0, .ref 5), (1, .int (nI w)), (2, .int (nI (mrow T w i))), (3, .int (nI i))], [], S) := by
    refine loop_up (P := fun i => BX me_T_rowMask 0 none (fun r u => r = some (.int (nI (mrow T w (tnb T)))) ∧ u = S) (4, [(0, .ref 5), (1, .int (nI w)), (2, .int (nI (mrow T w i))), (3, .int (nI i))], [], S)) (tnb T) ?_ ?_
    · skip
      refine run_ok 3 (c' := (9, [(0, .ref 5), (1, .int (nI w)), (2, .int (nI (mrow T w (tnb T)))), (3, .int (nI (tnb T)))], [.int (S.1 5 6), .int (nI (tnb T))], S)) rfl ?_
      refine x_top (v' := nI (tnb T)) t9 ?_
      refine x_icmpN_ge 37 rfl rfl (by omega) (by omega) (fun h9 => ?_) (fun hn => absurd (Nat.le_refl _) hn)
      refine run_ok 1 (c' := (38, [(0, .ref 5), (1, .int (nI w)), (2, .int (nI (mrow T w (tnb T)))), (3, .int (nI (tnb T)))], [.int (nI (mrow T w (tnb T)))], S)) rfl ?_
      exact x_ret (r := some (.int (nI (mrow T w (tnb T))))) rfl rfl trivial ⟨rfl, rfl⟩ rfl
    · intro i hi ih
      have q1 := (hbt i hi).2.2.1
      refine run_ok 3 (c' := (9, [(0, .ref 5), (1, .int (nI w)), (2, .int (nI (mrow T w i))), (3, .int (nI i))], [.int (S.1 5 6), .int (nI i)], S)) rfl ?_
      refine x_top (v' := nI (tnb T)) t9 ?_
      refine x_icmpN_ge 37 rfl rfl (by omega) (by omega) (fun hn => absurd hn (show ¬ tnb T ≤ i by omega)) (fun h9 => ?_)
      refine run_ok 3 (c' := (17, [(0, .ref 5), (1, .int (nI w)), (2, .int (nI (mrow T w i))), (3, .int (nI i))], [.int (nI i), .ref 9], S)) rfl ?_
      refine x_iaN (nI (tla T i)) rfl rfl (by decide) (by omega) (t4 i (by omega)) ?_
      refine run_ok 1 (c' := (19, [(0, .ref 5), (1, .int (nI w)), (2, .int (nI (mrow T w i))), (3, .int (nI i))], [.int (nI w), .int (nI (tla T i))], S)) rfl ?_
      refine x_icmpN_gt 31 rfl rfl (by omega) (by omega) (fun h19 => ?_) (fun h19 => ?_)
      · refine run_ok 1 (c' := (34, [(0, .ref 5), (1, .int (nI w)), (2, .int (nI (mrow T w i))), (3, .int (nI i + nI 1))], [], S)) rfl ?_
        rw [nI_add i 1]
        refine run_ok 1 (c' := (4, [(0, .ref 5), (1, .int (nI w)), (2, .int (nI (mrow T w i))), (3, .int (nI (i + 1)))], [], S)) rfl ?_
        rw [show mrow T w (i + 1) = mrow T w i by show _ + (if tla T i ≤ w then 15 * 16 ^ i else 0) = _; rw [if_neg (by omega)]; rfl] at ih
        exact ih
      · refine run_ok 5 (c' := (28, [(0, .ref 5), (1, .int (nI w)), (2, .int (nI (mrow T w i))), (3, .int (nI i))], [.int ((nI 4) * (nI i)), .int (nI 15), .int (nI (mrow T w i))], S)) rfl ?_
        refine x_top (v' := nI (4 * i)) (pk_mul _ _) ?_
        refine run_ok 2 (c' := (30, [(0, .ref 5), (1, .int (nI w)), (2, .int (nI (mrow T w i))), (3, .int (nI i))], [.int ((nI (mrow T w i)) ||| ((nI 15) <<< ((nI (4 * i)) &&& 31)))], S)) rfl ?_
        refine x_top (v' := nI (mrow T w i + 15 * 16 ^ i)) (nro_or (by rw [mrow_e]; exact nro_lt (fun k _ => by split <;> omega)) (by decide) (by omega)) ?_
        refine run_ok 2 (c' := (34, [(0, .ref 5), (1, .int (nI w)), (2, .int (nI (mrow T w i + 15 * 16 ^ i))), (3, .int (nI i + nI 1))], [], S)) rfl ?_
        rw [nI_add i 1]
        refine run_ok 1 (c' := (4, [(0, .ref 5), (1, .int (nI w)), (2, .int (nI (mrow T w i + 15 * 16 ^ i))), (3, .int (nI (i + 1)))], [], S)) rfl ?_
        rw [show mrow T w (i + 1) = mrow T w i + 15 * 16 ^ i by show _ + (if tla T i ≤ w then 15 * 16 ^ i else 0) = _; rw [if_pos (by omega)]] at ih
        exact ih
  refine run_ok 4 (c' := (4, [(0, .ref 5), (1, .int (nI w)), (2, .int (nI 0)), (3, .int (nI 0))], [], S)) rfl ?_
  exact H 0 (Nat.zero_le _)

def wgt (T : TD) (c : Nat) : Nat → Nat
  | 0 => 1
  | e + 1 => wgt T c e * (if (tlo T).testBit e = true then 16 - c else c)
set_option maxHeartbeats 2000000 in
theorem c_weight (S : ST) (T : TD) (c : Nat) (hT : TR 14 T S) (hto : tok T) (hc : c ≤ 16) : EX me_T_weight 0 [.ref 14, .int (nI c)] S (fun r u => r = some (.long (lN (wgt T c (tne T)))) ∧ u = S) := by
  refine EX.of mok_T_weight (Nat.le_of_ble_eq_true rfl) ?_
  obtain ⟨n8, n9, hbt, het, hht, hlo⟩ := id hto
  obtain ⟨t1, t2, t3, t4, t5, t6, t7, t8, t9, t10, t11⟩ := id hT
  have H : ∀ i, i ≤ tne T → BX me_T_weight 0 none (fun r u => r = some (.long (lN (wgt T c (tne T)))) ∧ u = S) (5, [(0, .ref 14), (1, .int (nI c)), (2, .long (lN (wgt T c i))), (4, .int (nI i))], [], S) := by
    refine loop_up (P := fun i => BX me_T_weight 0 none (fun r u => r = some (.long (lN (wgt T c (tne T)))) ∧ u = S) (5, [(0, .ref 14), (1, .int (nI c)), (2, .long (lN (wgt T c i))), (4, .int (nI i))], [], S)) (tne T) ?_ ?_
    · skip
      refine run_ok 3 (c' := (11, [(0, .ref 14), (1, .int (nI c)), (2, .long (lN (wgt T c (tne T)))), (4, .int (nI (tne T)))], [.int (S.1 14 10), .int (nI (tne T))], S)) rfl ?_
      refine x_top (v' := nI (tne T)) t10 ?_
      refine x_icmpN_ge 45 rfl rfl (by omega) (by omega) (fun h11 => ?_) (fun hn => absurd (Nat.le_refl _) hn)
      refine run_ok 1 (c' := (46, [(0, .ref 14), (1, .int (nI c)), (2, .long (lN (wgt T c (tne T)))), (4, .int (nI (tne T)))], [.long (lN (wgt T c (tne T)))], S)) rfl ?_
      exact x_ret (r := some (.long (lN (wgt T c (tne T))))) rfl rfl trivial ⟨rfl, rfl⟩ rfl
    · intro i hi ih
      refine run_ok 3 (c' := (11, [(0, .ref 14), (1, .int (nI c)), (2, .long (lN (wgt T c i))), (4, .int (nI i))], [.int (S.1 14 10), .int (nI i)], S)) rfl ?_
      refine x_top (v' := nI (tne T)) t10 ?_
      refine x_icmpN_ge 45 rfl rfl (by omega) (by omega) (fun hn => absurd hn (show ¬ tne T ≤ i by omega)) (fun h11 => ?_)
      refine run_ok 3 (c' := (19, [(0, .ref 14), (1, .int (nI c)), (2, .long (lN (wgt T c i))), (4, .int (nI i))], [.int (S.1 14 11), .long (lN (wgt T c i))], S)) rfl ?_
      refine x_top (v' := nI (tlo T)) t11 ?_
      refine run_ok 4 (c' := (24, [(0, .ref 14), (1, .int (nI c)), (2, .long (lN (wgt T c i))), (4, .int (nI i))], [.int (((nI (tlo T)) >>> ((nI i) &&& 31)) &&& (nI 1)), .long (lN (wgt T c i))], S)) rfl ?_
      refine x_top (v' := b2 ((tlo T).testBit i = true)) (by rw [bit_t (by omega) (by omega)]; unfold b2; split <;> rfl) ?_
      refine x_ifB_ne 32 rfl rfl (fun h24 => ?_) (fun h24 => ?_)
      · refine run_ok 3 (c' := (36, [(0, .ref 14), (1, .int (nI c)), (2, .long (lN (wgt T c i))), (4, .int (nI i))], [.int ((nI 16) - (nI c)), .long (lN (wgt T c i))], S)) rfl ?_
        refine x_top (v' := nI (16 - c)) (pk_sub (by omega)) ?_
        refine run_ok 1 (c' := (37, [(0, .ref 14), (1, .int (nI c)), (2, .long (lN (wgt T c i))), (4, .int (nI i))], [.long ((nI (16 - c)).toInt64), .long (lN (wgt T c i))], S)) rfl ?_
        refine x_topl (v' := lN (16 - c)) (nI_l (by omega)) ?_
        refine run_ok 1 (c' := (38, [(0, .ref 14), (1, .int (nI c)), (2, .long (lN (wgt T c i))), (4, .int (nI i))], [.long ((lN (wgt T c i)) * (lN (16 - c)))], S)) rfl ?_
        refine x_topl (v' := lN (wgt T c i * (16 - c))) (lN_mul _ _) ?_
        refine run_ok 2 (c' := (42, [(0, .ref 14), (1, .int (nI c)), (2, .long (lN (wgt T c i * (16 - c)))), (4, .int (nI i + nI 1))], [], S)) rfl ?_
        rw [nI_add i 1]
        refine run_ok 1 (c' := (5, [(0, .ref 14), (1, .int (nI c)), (2, .long (lN (wgt T c i * (16 - c)))), (4, .int (nI (i + 1)))], [], S)) rfl ?_
        rw [show wgt T c (i + 1) = wgt T c i * (16 - c) from congrArg (fun z => wgt T c i * z) (if_pos h24)] at ih
        exact ih
      · refine run_ok 2 (c' := (29, [(0, .ref 14), (1, .int (nI c)), (2, .long (lN (wgt T c i))), (4, .int (nI i))], [.long ((nI c).toInt64), .long (lN (wgt T c i))], S)) rfl ?_
        refine x_topl (v' := lN c) (nI_l (by omega)) ?_
        refine run_ok 2 (c' := (38, [(0, .ref 14), (1, .int (nI c)), (2, .long (lN (wgt T c i))), (4, .int (nI i))], [.long ((lN (wgt T c i)) * (lN c))], S)) rfl ?_
        refine x_topl (v' := lN (wgt T c i * c)) (lN_mul _ _) ?_
        refine run_ok 2 (c' := (42, [(0, .ref 14), (1, .int (nI c)), (2, .long (lN (wgt T c i * c))), (4, .int (nI i + nI 1))], [], S)) rfl ?_
        rw [nI_add i 1]
        refine run_ok 1 (c' := (5, [(0, .ref 14), (1, .int (nI c)), (2, .long (lN (wgt T c i * c))), (4, .int (nI (i + 1)))], [], S)) rfl ?_
        rw [show wgt T c (i + 1) = wgt T c i * c from congrArg (fun z => wgt T c i * z) (if_neg h24)] at ih
        exact ih
  refine run_ok 4 (c' := (5, [(0, .ref 14), (1, .int (nI c)), (2, .long 1), (4, .int (nI 0))], [], S)) rfl ?_
  exact H 0 (Nat.zero_le _)

