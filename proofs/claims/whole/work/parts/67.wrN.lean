/-! THE WRITER: what a word is told as -/
def mkB : List (Nat × Nat) := [(0, 65536), (0, 65536), (0, 65536), (0, 65536), (65024, 3584), (65024, 3584), (65024, 2048), (65024, 1024), (65024, 512), (65024, 3072), (65024, 2560), (65024, 1536), (61496, 4096), (61472, 4128), (61496, 20480), (61472, 20512), (61503, 36927), (61440, 8192), (61440, 40960), (61440, 57344), (61440, 12288), (61440, 45056), (61440, 24576), (61440, 28672), (65535, 49600), (65087, 49152), (63488, 18432), (65087, 16384), (65535, 32768), (65535, 61472), (65535, 61473), (65535, 61474), (65535, 61475), (65535, 61476), (65535, 61477), (65280, 61440), (0, 0)]
def fN (w : Nat) : List (Nat × Nat) → Nat → Nat
  | [], _ => 36
  | p :: l, i => bif Nat.beq (Nat.land w p.1) p.2 then i else fN w l (i + 1)
def br8 : List Nat := [36, 8, 7, 11, 6, 10, 9, 4]
def dN (w : Nat) : Nat :=
  bif Nat.beq (Nat.shiftRight w 12) 0 then br8.getD (Nat.land (Nat.shiftRight w 9) 7) 0 else
  bif Nat.beq (Nat.shiftRight w 12) 1 then (bif Nat.beq (Nat.land w 32) 32 then 13 else bif Nat.beq (Nat.land w 24) 0 then 12 else 36) else
  bif Nat.beq (Nat.shiftRight w 12) 2 then 17 else bif Nat.beq (Nat.shiftRight w 12) 3 then 20 else
  bif Nat.beq (Nat.shiftRight w 12) 4 then (bif Nat.beq (Nat.land w 2048) 2048 then 26 else bif Nat.beq (Nat.land w 3647) 0 then 27 else 36) else
  bif Nat.beq (Nat.shiftRight w 12) 5 then (bif Nat.beq (Nat.land w 32) 32 then 15 else bif Nat.beq (Nat.land w 24) 0 then 14 else 36) else
  bif Nat.beq (Nat.shiftRight w 12) 6 then 22 else bif Nat.beq (Nat.shiftRight w 12) 7 then 23 else bif Nat.beq (Nat.shiftRight w 12) 8 then (bif Nat.beq w 32768 then 28 else 36) else
  bif Nat.beq (Nat.shiftRight w 12) 9 then (bif Nat.beq (Nat.land w 63) 63 then 16 else 36) else bif Nat.beq (Nat.shiftRight w 12) 10 then 18 else bif Nat.beq (Nat.shiftRight w 12) 11 then 21 else
  bif Nat.beq (Nat.shiftRight w 12) 12 then (bif Nat.beq (Nat.land w 3647) 0 then (bif Nat.beq w 49600 then 24 else 25) else 36) else
  bif Nat.beq (Nat.shiftRight w 12) 14 then 19 else bif Nat.beq (Nat.shiftRight w 12) 15 then (bif Nat.beq (Nat.land w 3840) 0 then (bif Nat.ble 32 (Nat.land w 255) && Nat.ble (Nat.land w 255) 37 then Nat.sub (Nat.land w 255) 3 else 35) else 36) else 36
def chkW : Nat → Nat → Bool
  | 0, _ => true
  | m + 1, n => Nat.beq (fN n mkB 0) (dN n) && chkW m (n + 1)
theorem chkW_p : ∀ (m a n : Nat), chkW m a = true → a ≤ n → n < a + m → fN n mkB 0 = dN n
  | 0, a, n, _, h1, h2 => by omega
  | m + 1, a, n, h, h1, h2 => by
    rw [chkW, Bool.and_eq_true] at h
    rcases Nat.eq_or_lt_of_le h1 with e | e
    · subst e; exact Nat.eq_of_beq_eq_true h.1
    · exact chkW_p m (a + 1) n h.2 e (by omega)
set_option maxRecDepth 100000 in
theorem ckW_0 : chkW 4096 0 = true := by decide +kernel
set_option maxRecDepth 100000 in
theorem ckW_1 : chkW 4096 4096 = true := by decide +kernel
set_option maxRecDepth 100000 in
theorem ckW_2 : chkW 4096 8192 = true := by decide +kernel
set_option maxRecDepth 100000 in
theorem ckW_3 : chkW 4096 12288 = true := by decide +kernel
set_option maxRecDepth 100000 in
theorem ckW_4 : chkW 4096 16384 = true := by decide +kernel
set_option maxRecDepth 100000 in
theorem ckW_5 : chkW 4096 20480 = true := by decide +kernel
set_option maxRecDepth 100000 in
theorem ckW_6 : chkW 4096 24576 = true := by decide +kernel
set_option maxRecDepth 100000 in
theorem ckW_7 : chkW 4096 28672 = true := by decide +kernel
set_option maxRecDepth 100000 in
theorem ckW_8 : chkW 4096 32768 = true := by decide +kernel
set_option maxRecDepth 100000 in
theorem ckW_9 : chkW 4096 36864 = true := by decide +kernel
set_option maxRecDepth 100000 in
theorem ckW_10 : chkW 4096 40960 = true := by decide +kernel
set_option maxRecDepth 100000 in
theorem ckW_11 : chkW 4096 45056 = true := by decide +kernel
set_option maxRecDepth 100000 in
theorem ckW_12 : chkW 4096 49152 = true := by decide +kernel
set_option maxRecDepth 100000 in
theorem ckW_13 : chkW 4096 53248 = true := by decide +kernel
set_option maxRecDepth 100000 in
theorem ckW_14 : chkW 4096 57344 = true := by decide +kernel
set_option maxRecDepth 100000 in
theorem ckW_15 : chkW 4096 61440 = true := by decide +kernel
theorem fd_e {n : Nat} (h : n < 65536) : fN n mkB 0 = dN n := by
  by_cases h0 : n < 4096
  · exact chkW_p 4096 0 n ckW_0 (by omega) (by omega)
  by_cases h1 : n < 8192
  · exact chkW_p 4096 4096 n ckW_1 (by omega) (by omega)
  by_cases h2 : n < 12288
  · exact chkW_p 4096 8192 n ckW_2 (by omega) (by omega)
  by_cases h3 : n < 16384
  · exact chkW_p 4096 12288 n ckW_3 (by omega) (by omega)
  by_cases h4 : n < 20480
  · exact chkW_p 4096 16384 n ckW_4 (by omega) (by omega)
  by_cases h5 : n < 24576
  · exact chkW_p 4096 20480 n ckW_5 (by omega) (by omega)
  by_cases h6 : n < 28672
  · exact chkW_p 4096 24576 n ckW_6 (by omega) (by omega)
  by_cases h7 : n < 32768
  · exact chkW_p 4096 28672 n ckW_7 (by omega) (by omega)
  by_cases h8 : n < 36864
  · exact chkW_p 4096 32768 n ckW_8 (by omega) (by omega)
  by_cases h9 : n < 40960
  · exact chkW_p 4096 36864 n ckW_9 (by omega) (by omega)
  by_cases h10 : n < 45056
  · exact chkW_p 4096 40960 n ckW_10 (by omega) (by omega)
  by_cases h11 : n < 49152
  · exact chkW_p 4096 45056 n ckW_11 (by omega) (by omega)
  by_cases h12 : n < 53248
  · exact chkW_p 4096 49152 n ckW_12 (by omega) (by omega)
  by_cases h13 : n < 57344
  · exact chkW_p 4096 53248 n ckW_13 (by omega) (by omega)
  by_cases h14 : n < 61440
  · exact chkW_p 4096 57344 n ckW_14 (by omega) (by omega)
  by_cases h15 : n < 65536
  · exact chkW_p 4096 61440 n ckW_15 (by omega) (by omega)
  omega
