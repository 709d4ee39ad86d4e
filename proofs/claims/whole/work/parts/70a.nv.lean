/-! THE REFERENCE's WRITER -/
def LW (h : PH) (L : List Int32) : Prop := St h ∧ hI h 25 38 = nI L.length ∧ L.length ≤ 40 ∧ ∀ (i : Nat) (v : Int32), L[i]? = some v → hI h 37 i = v
def FW (h h' : PH) : Prop := Sm [25, 37] h h' ∧ ∀ k, k ≠ 38 → hI h' 25 k = hI h 25 k
theorem FW.rf {h : PH} : FW h h := ⟨Sm.rf, fun _ _ => rfl⟩
theorem FW.tr {h h1 h2 : PH} (q : FW h h1) (r : FW h1 h2) : FW h h2 := ⟨q.1.tr r.1, fun k hk => (r.2 k hk).trans (q.2 k hk)⟩
def nvR (v : Int32) : List Int32 := 35 :: ((if v < 0 then [45] else []) ++ ((if 999 < (if v < 0 then -v else v) then [48 + (if v < 0 then -v else v) / 1000] else []) ++ ((if 99 < (if v < 0 then -v else v) then [48 + r10 ((if v < 0 then -v else v) / 100)] else []) ++ ((if 9 < (if v < 0 then -v else v) then [48 + r10 ((if v < 0 then -v else v) / 10)] else []) ++ [48 + r10 (if v < 0 then -v else v)]))))
theorem nv_b5 : ∀ j, j < 32 → nvR (sgS (nI j) 5) = nvC (sgS (nI j) 5) ∧ (nvC (sgS (nI j) 5)).length ≤ 6 ∧ (nvC (sgS (nI j) 5)).all (fun b => decide (b &&& 255 = b)) = true := by decide +kernel
theorem nv_b6 : ∀ j, j < 64 → nvR (sgS (nI j) 6) = nvC (sgS (nI j) 6) ∧ (nvC (sgS (nI j) 6)).length ≤ 6 ∧ (nvC (sgS (nI j) 6)).all (fun b => decide (b &&& 255 = b)) = true := by decide +kernel
theorem nv_b9 : ∀ j, j < 512 → nvR (sgS (nI j) 9) = nvC (sgS (nI j) 9) ∧ (nvC (sgS (nI j) 9)).length ≤ 6 ∧ (nvC (sgS (nI j) 9)).all (fun b => decide (b &&& 255 = b)) = true := by decide +kernel
theorem nv_b11 : ∀ j, j < 2048 → nvR (sgS (nI j) 11) = nvC (sgS (nI j) 11) ∧ (nvC (sgS (nI j) 11)).length ≤ 6 ∧ (nvC (sgS (nI j) 11)).all (fun b => decide (b &&& 255 = b)) = true := by decide +kernel
theorem nv_5 (w : Int32) : nvR (sgS w 5) = nvC (sgS w 5) ∧ (nvC (sgS w 5)).length ≤ 6 ∧ (nvC (sgS w 5)).all (fun b => decide (b &&& 255 = b)) = true := by
  obtain ⟨j, hj, e⟩ := pk_andE w (m := 2 * (1 : Int32) <<< ((5 : Int32) - 1 &&& 31) - 1) 5 (by decide)
  have g : sgS w 5 = sgS (nI j) 5 := by
    have e2 : nI j &&& (2 * (1 : Int32) <<< ((5 : Int32) - 1 &&& 31) - 1) = nI j := by
      rw [pk_andN (n := j) (by omega) 5 (by decide), Nat.mod_eq_of_lt hj]
    unfold sgS; rw [e, e2]
  rw [g]; exact nv_b5 j hj
theorem nv_6 (w : Int32) : nvR (sgS w 6) = nvC (sgS w 6) ∧ (nvC (sgS w 6)).length ≤ 6 ∧ (nvC (sgS w 6)).all (fun b => decide (b &&& 255 = b)) = true := by
  obtain ⟨j, hj, e⟩ := pk_andE w (m := 2 * (1 : Int32) <<< ((6 : Int32) - 1 &&& 31) - 1) 6 (by decide)
  have g : sgS w 6 = sgS (nI j) 6 := by
    have e2 : nI j &&& (2 * (1 : Int32) <<< ((6 : Int32) - 1 &&& 31) - 1) = nI j := by
      rw [pk_andN (n := j) (by omega) 6 (by decide), Nat.mod_eq_of_lt hj]
    unfold sgS; rw [e, e2]
  rw [g]; exact nv_b6 j hj
theorem nv_9 (w : Int32) : nvR (sgS w 9) = nvC (sgS w 9) ∧ (nvC (sgS w 9)).length ≤ 6 ∧ (nvC (sgS w 9)).all (fun b => decide (b &&& 255 = b)) = true := by
  obtain ⟨j, hj, e⟩ := pk_andE w (m := 2 * (1 : Int32) <<< ((9 : Int32) - 1 &&& 31) - 1) 9 (by decide)
  have g : sgS w 9 = sgS (nI j) 9 := by
    have e2 : nI j &&& (2 * (1 : Int32) <<< ((9 : Int32) - 1 &&& 31) - 1) = nI j := by
      rw [pk_andN (n := j) (by omega) 9 (by decide), Nat.mod_eq_of_lt hj]
    unfold sgS; rw [e, e2]
  rw [g]; exact nv_b9 j hj
theorem nv_11 (w : Int32) : nvR (sgS w 11) = nvC (sgS w 11) ∧ (nvC (sgS w 11)).length ≤ 6 ∧ (nvC (sgS w 11)).all (fun b => decide (b &&& 255 = b)) = true := by
  obtain ⟨j, hj, e⟩ := pk_andE w (m := 2 * (1 : Int32) <<< ((11 : Int32) - 1 &&& 31) - 1) 11 (by decide)
  have g : sgS w 11 = sgS (nI j) 11 := by
    have e2 : nI j &&& (2 * (1 : Int32) <<< ((11 : Int32) - 1 &&& 31) - 1) = nI j := by
      rw [pk_andN (n := j) (by omega) 11 (by decide), Nat.mod_eq_of_lt hj]
    unfold sgS; rw [e, e2]
  rw [g]; exact nv_b11 j hj
theorem hx_e : ∀ j, j < 16 → (if nI j < 10 then (48 : Int32) + nI j else 65 + nI j - 10) = (sB 4).getD j 0 ∧ (sB 4).getD j 0 &&& 255 = (sB 4).getD j 0 := by decide +kernel
