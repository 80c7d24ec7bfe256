/-- bits in a number below 2 ^ 16 -/
def popc (a : Nat) : Nat := a % 2 + a / 2 % 2 + a / 4 % 2 + a / 8 % 2 + a / 16 % 2 + a / 32 % 2 + a / 64 % 2 + a / 128 % 2 + a / 256 % 2 + a / 512 % 2 + a / 1024 % 2 + a / 2048 % 2 + a / 4096 % 2 + a / 8192 % 2 + a / 16384 % 2 + a / 32768 % 2
def bitN (a : Nat) : Nat :=
  let b := a - (a / 2 &&& 1431655765)
  let c := (b &&& 858993459) + (b / 4 &&& 858993459)
  let e := (c + c / 16) &&& 252645135
  let i := e + e / 256
  let k := i + i / 65536
  k &&& 63
def bitC : Nat → Nat → Bool | 0, _ => true | n + 1, a => Nat.beq (bitN a) (popc a) && bitC n (a + 1)
theorem bitC_at : ∀ (n a b : Nat), bitC n a = true → a ≤ b → b < a + n → bitN b = popc b
  | 0, a, b, _, h1, h2 => absurd h2 (by omega)
  | n + 1, a, b, h, h1, h2 => by
    simp only [bitC, Bool.and_eq_true] at h
    rcases Nat.eq_or_lt_of_le h1 with e | e
    · subst e
      exact Nat.eq_of_beq_eq_true h.1
    · exact bitC_at n (a + 1) b h.2 e (by omega)
theorem bitC_0 : bitC 2048 0 = true := by decide +kernel
theorem bitC_1 : bitC 2048 2048 = true := by decide +kernel
theorem bitC_2 : bitC 2048 4096 = true := by decide +kernel
theorem bitC_3 : bitC 2048 6144 = true := by decide +kernel
theorem bitC_4 : bitC 2048 8192 = true := by decide +kernel
theorem bitC_5 : bitC 2048 10240 = true := by decide +kernel
theorem bitC_6 : bitC 2048 12288 = true := by decide +kernel
theorem bitC_7 : bitC 2048 14336 = true := by decide +kernel
theorem bitC_8 : bitC 2048 16384 = true := by decide +kernel
theorem bitC_9 : bitC 2048 18432 = true := by decide +kernel
theorem bitC_10 : bitC 2048 20480 = true := by decide +kernel
theorem bitC_11 : bitC 2048 22528 = true := by decide +kernel
theorem bitC_12 : bitC 2048 24576 = true := by decide +kernel
theorem bitC_13 : bitC 2048 26624 = true := by decide +kernel
theorem bitC_14 : bitC 2048 28672 = true := by decide +kernel
theorem bitC_15 : bitC 2048 30720 = true := by decide +kernel
theorem bitC_16 : bitC 2048 32768 = true := by decide +kernel
theorem bitC_17 : bitC 2048 34816 = true := by decide +kernel
theorem bitC_18 : bitC 2048 36864 = true := by decide +kernel
theorem bitC_19 : bitC 2048 38912 = true := by decide +kernel
theorem bitC_20 : bitC 2048 40960 = true := by decide +kernel
theorem bitC_21 : bitC 2048 43008 = true := by decide +kernel
theorem bitC_22 : bitC 2048 45056 = true := by decide +kernel
theorem bitC_23 : bitC 2048 47104 = true := by decide +kernel
theorem bitC_24 : bitC 2048 49152 = true := by decide +kernel
theorem bitC_25 : bitC 2048 51200 = true := by decide +kernel
theorem bitC_26 : bitC 2048 53248 = true := by decide +kernel
theorem bitC_27 : bitC 2048 55296 = true := by decide +kernel
theorem bitC_28 : bitC 2048 57344 = true := by decide +kernel
theorem bitC_29 : bitC 2048 59392 = true := by decide +kernel
theorem bitC_30 : bitC 2048 61440 = true := by decide +kernel
theorem bitC_31 : bitC 2048 63488 = true := by decide +kernel
theorem bitN_eq {a : Nat} (h : a < 65536) : bitN a = popc a := by
  rcases Nat.lt_or_ge a 2048 with h0 | h0
  · exact bitC_at 2048 0 a bitC_0 (by omega) (by omega)
  rcases Nat.lt_or_ge a 4096 with h1 | h1
  · exact bitC_at 2048 2048 a bitC_1 (by omega) (by omega)
  rcases Nat.lt_or_ge a 6144 with h2 | h2
  · exact bitC_at 2048 4096 a bitC_2 (by omega) (by omega)
  rcases Nat.lt_or_ge a 8192 with h3 | h3
  · exact bitC_at 2048 6144 a bitC_3 (by omega) (by omega)
  rcases Nat.lt_or_ge a 10240 with h4 | h4
  · exact bitC_at 2048 8192 a bitC_4 (by omega) (by omega)
  rcases Nat.lt_or_ge a 12288 with h5 | h5
  · exact bitC_at 2048 10240 a bitC_5 (by omega) (by omega)
  rcases Nat.lt_or_ge a 14336 with h6 | h6
  · exact bitC_at 2048 12288 a bitC_6 (by omega) (by omega)
  rcases Nat.lt_or_ge a 16384 with h7 | h7
  · exact bitC_at 2048 14336 a bitC_7 (by omega) (by omega)
  rcases Nat.lt_or_ge a 18432 with h8 | h8
  · exact bitC_at 2048 16384 a bitC_8 (by omega) (by omega)
  rcases Nat.lt_or_ge a 20480 with h9 | h9
  · exact bitC_at 2048 18432 a bitC_9 (by omega) (by omega)
  rcases Nat.lt_or_ge a 22528 with h10 | h10
  · exact bitC_at 2048 20480 a bitC_10 (by omega) (by omega)
  rcases Nat.lt_or_ge a 24576 with h11 | h11
  · exact bitC_at 2048 22528 a bitC_11 (by omega) (by omega)
  rcases Nat.lt_or_ge a 26624 with h12 | h12
  · exact bitC_at 2048 24576 a bitC_12 (by omega) (by omega)
  rcases Nat.lt_or_ge a 28672 with h13 | h13
  · exact bitC_at 2048 26624 a bitC_13 (by omega) (by omega)
  rcases Nat.lt_or_ge a 30720 with h14 | h14
  · exact bitC_at 2048 28672 a bitC_14 (by omega) (by omega)
  rcases Nat.lt_or_ge a 32768 with h15 | h15
  · exact bitC_at 2048 30720 a bitC_15 (by omega) (by omega)
  rcases Nat.lt_or_ge a 34816 with h16 | h16
  · exact bitC_at 2048 32768 a bitC_16 (by omega) (by omega)
  rcases Nat.lt_or_ge a 36864 with h17 | h17
  · exact bitC_at 2048 34816 a bitC_17 (by omega) (by omega)
  rcases Nat.lt_or_ge a 38912 with h18 | h18
  · exact bitC_at 2048 36864 a bitC_18 (by omega) (by omega)
  rcases Nat.lt_or_ge a 40960 with h19 | h19
  · exact bitC_at 2048 38912 a bitC_19 (by omega) (by omega)
  rcases Nat.lt_or_ge a 43008 with h20 | h20
  · exact bitC_at 2048 40960 a bitC_20 (by omega) (by omega)
  rcases Nat.lt_or_ge a 45056 with h21 | h21
  · exact bitC_at 2048 43008 a bitC_21 (by omega) (by omega)
  rcases Nat.lt_or_ge a 47104 with h22 | h22
  · exact bitC_at 2048 45056 a bitC_22 (by omega) (by omega)
  rcases Nat.lt_or_ge a 49152 with h23 | h23
  · exact bitC_at 2048 47104 a bitC_23 (by omega) (by omega)
  rcases Nat.lt_or_ge a 51200 with h24 | h24
  · exact bitC_at 2048 49152 a bitC_24 (by omega) (by omega)
  rcases Nat.lt_or_ge a 53248 with h25 | h25
  · exact bitC_at 2048 51200 a bitC_25 (by omega) (by omega)
  rcases Nat.lt_or_ge a 55296 with h26 | h26
  · exact bitC_at 2048 53248 a bitC_26 (by omega) (by omega)
  rcases Nat.lt_or_ge a 57344 with h27 | h27
  · exact bitC_at 2048 55296 a bitC_27 (by omega) (by omega)
  rcases Nat.lt_or_ge a 59392 with h28 | h28
  · exact bitC_at 2048 57344 a bitC_28 (by omega) (by omega)
  rcases Nat.lt_or_ge a 61440 with h29 | h29
  · exact bitC_at 2048 59392 a bitC_29 (by omega) (by omega)
  rcases Nat.lt_or_ge a 63488 with h30 | h30
  · exact bitC_at 2048 61440 a bitC_30 (by omega) (by omega)
  exact bitC_at 2048 63488 a bitC_31 (by omega) (by omega)
theorem bitN_lt (a : Nat) : bitN a < 64 := Nat.lt_of_le_of_lt Nat.and_le_right (by decide)
