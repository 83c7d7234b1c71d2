theorem pg_chop {α : Type} {p : α → Prop} (n : Nat) : ∀ (l : List α), (∀ q ∈ l.take n, p q) → (∀ q ∈ l.drop n, p q) → ∀ q ∈ l, p q := fun l h1 h2 q hq => by
  rw [← List.take_append_drop n l] at hq
  rcases List.mem_append.mp hq with h | h
  · exact h1 q h
  · exact h2 q h
set_option maxRecDepth 100000 in
theorem pg_dec0 : ∀ q ∈ pg_c0, decode (pg_cc 0) q.1 = .ok (q.2.1, mj_len q.2) := by decide +kernel
set_option maxRecDepth 100000 in
theorem pg_dec1 : ∀ q ∈ pg_c1, decode (pg_cc 1) q.1 = .ok (q.2.1, mj_len q.2) := by decide +kernel
set_option maxRecDepth 100000 in
theorem pg_dec2 : ∀ q ∈ pg_c2, decode (pg_cc 2) q.1 = .ok (q.2.1, mj_len q.2) := by decide +kernel
set_option maxRecDepth 100000 in
theorem pg_dec3 : ∀ q ∈ pg_c3, decode (pg_cc 3) q.1 = .ok (q.2.1, mj_len q.2) := by decide +kernel
set_option maxRecDepth 100000 in
theorem pg_dec4 : ∀ q ∈ pg_c4, decode (pg_cc 4) q.1 = .ok (q.2.1, mj_len q.2) := by decide +kernel
set_option maxRecDepth 100000 in
theorem pg_dec5 : ∀ q ∈ pg_c5, decode (pg_cc 5) q.1 = .ok (q.2.1, mj_len q.2) := by decide +kernel
set_option maxRecDepth 100000 in
theorem pg_dec6 : ∀ q ∈ pg_c6, decode (pg_cc 6) q.1 = .ok (q.2.1, mj_len q.2) := by decide +kernel
set_option maxRecDepth 100000 in
theorem pg_dec7 : ∀ q ∈ pg_c7, decode (pg_cc 7) q.1 = .ok (q.2.1, mj_len q.2) := by decide +kernel
set_option maxRecDepth 100000 in
theorem pg_dec8 : ∀ q ∈ pg_c8, decode (pg_cc 8) q.1 = .ok (q.2.1, mj_len q.2) := by decide +kernel
set_option maxRecDepth 100000 in
theorem pg_dec9 : ∀ q ∈ pg_c9, decode (pg_cc 9) q.1 = .ok (q.2.1, mj_len q.2) := by decide +kernel
set_option maxRecDepth 100000 in
theorem pg_dec10 : ∀ q ∈ pg_c10, decode (pg_cc 10) q.1 = .ok (q.2.1, mj_len q.2) := by decide +kernel
set_option maxRecDepth 100000 in
theorem pg_dec11 : ∀ q ∈ pg_c11, decode (pg_cc 11) q.1 = .ok (q.2.1, mj_len q.2) := by decide +kernel
set_option maxRecDepth 100000 in
theorem pg_dec12 : ∀ q ∈ pg_c12, decode (pg_cc 12) q.1 = .ok (q.2.1, mj_len q.2) := by decide +kernel
set_option maxRecDepth 100000 in
theorem pg_dec13 : ∀ q ∈ pg_c13, decode (pg_cc 13) q.1 = .ok (q.2.1, mj_len q.2) := by decide +kernel
set_option maxRecDepth 100000 in
theorem pg_dec14 : ∀ q ∈ pg_c14, decode (pg_cc 14) q.1 = .ok (q.2.1, mj_len q.2) := by decide +kernel
set_option maxRecDepth 100000 in
theorem pg_dec15 : ∀ q ∈ pg_c15, decode (pg_cc 15) q.1 = .ok (q.2.1, mj_len q.2) := by decide +kernel
set_option maxRecDepth 100000 in
theorem pg_dec16 : ∀ q ∈ pg_c16, decode (pg_cc 16) q.1 = .ok (q.2.1, mj_len q.2) := by decide +kernel
set_option maxRecDepth 100000 in
theorem pg_dec17 : ∀ q ∈ pg_c17, decode (pg_cc 17) q.1 = .ok (q.2.1, mj_len q.2) := by decide +kernel
set_option maxRecDepth 100000 in
theorem pg_dec18 : ∀ q ∈ pg_c18, decode (pg_cc 18) q.1 = .ok (q.2.1, mj_len q.2) := by decide +kernel
set_option maxRecDepth 100000 in
theorem pg_dec19 : ∀ q ∈ pg_c19, decode (pg_cc 19) q.1 = .ok (q.2.1, mj_len q.2) := by decide +kernel
set_option maxRecDepth 100000 in
theorem pg_dec20 : ∀ q ∈ pg_c20, decode (pg_cc 20) q.1 = .ok (q.2.1, mj_len q.2) := by decide +kernel
set_option maxRecDepth 100000 in
theorem pg_dec21 : ∀ q ∈ pg_c21, decode (pg_cc 21) q.1 = .ok (q.2.1, mj_len q.2) := by decide +kernel
set_option maxRecDepth 100000 in
theorem pg_dec22 : ∀ q ∈ pg_c22, decode (pg_cc 22) q.1 = .ok (q.2.1, mj_len q.2) := by decide +kernel
set_option maxRecDepth 100000 in
theorem pg_dec23 : ∀ q ∈ pg_c23, decode (pg_cc 23) q.1 = .ok (q.2.1, mj_len q.2) := by decide +kernel
set_option maxRecDepth 100000 in
theorem pg_dec24 : ∀ q ∈ pg_c24, decode (pg_cc 24) q.1 = .ok (q.2.1, mj_len q.2) := by decide +kernel
set_option maxRecDepth 100000 in
theorem pg_dec25 : ∀ q ∈ pg_c25, decode (pg_cc 25) q.1 = .ok (q.2.1, mj_len q.2) := by decide +kernel
set_option maxRecDepth 100000 in
theorem pg_dec26 : ∀ q ∈ pg_c26, decode (pg_cc 26) q.1 = .ok (q.2.1, mj_len q.2) := by decide +kernel
set_option maxRecDepth 100000 in
theorem pg_dec27 : ∀ q ∈ pg_c27, decode (pg_cc 27) q.1 = .ok (q.2.1, mj_len q.2) := by decide +kernel
set_option maxRecDepth 100000 in
theorem pg_dec28 : ∀ q ∈ pg_c28, decode (pg_cc 28) q.1 = .ok (q.2.1, mj_len q.2) := by decide +kernel
set_option maxRecDepth 100000 in
theorem pg_dec29 : ∀ q ∈ pg_c29, decode (pg_cc 29) q.1 = .ok (q.2.1, mj_len q.2) := by decide +kernel
set_option maxRecDepth 100000 in
theorem pg_dec30 : ∀ q ∈ pg_c30, decode (pg_cc 30) q.1 = .ok (q.2.1, mj_len q.2) := by decide +kernel
set_option maxRecDepth 100000 in
theorem pg_dec31 : ∀ q ∈ pg_c31, decode (pg_cc 31) q.1 = .ok (q.2.1, mj_len q.2) := by decide +kernel
set_option maxRecDepth 100000 in
theorem pg_dec32 : ∀ q ∈ pg_c32, decode (pg_cc 32) q.1 = .ok (q.2.1, mj_len q.2) := by decide +kernel
set_option maxRecDepth 100000 in
theorem pg_dec33 : ∀ q ∈ pg_c33, decode (pg_cc 33) q.1 = .ok (q.2.1, mj_len q.2) := by decide +kernel
set_option maxRecDepth 100000 in
theorem pg_dec34 : ∀ q ∈ pg_c34, decode (pg_cc 34) q.1 = .ok (q.2.1, mj_len q.2) := by decide +kernel
set_option maxRecDepth 100000 in
theorem pg_dec35 : ∀ q ∈ pg_c35, decode (pg_cc 35) q.1 = .ok (q.2.1, mj_len q.2) := by decide +kernel
set_option maxRecDepth 100000 in
theorem pg_dec36 : ∀ q ∈ pg_c36, decode (pg_cc 36) q.1 = .ok (q.2.1, mj_len q.2) := by decide +kernel
set_option maxRecDepth 100000 in
theorem pg_dec37 : ∀ q ∈ pg_c37, decode (pg_cc 37) q.1 = .ok (q.2.1, mj_len q.2) := by decide +kernel
set_option maxRecDepth 100000 in
theorem pg_dec38 : ∀ q ∈ pg_c38, decode (pg_cc 38) q.1 = .ok (q.2.1, mj_len q.2) := by decide +kernel
set_option maxRecDepth 100000 in
theorem pg_dec39 : ∀ q ∈ pg_c39, decode (pg_cc 39) q.1 = .ok (q.2.1, mj_len q.2) := by decide +kernel
set_option maxRecDepth 100000 in
theorem pg_dec40 : ∀ q ∈ pg_c40, decode (pg_cc 40) q.1 = .ok (q.2.1, mj_len q.2) := by decide +kernel
set_option maxRecDepth 100000 in
theorem pg_dec41 : ∀ q ∈ pg_c41, decode (pg_cc 41) q.1 = .ok (q.2.1, mj_len q.2) := by decide +kernel
set_option maxRecDepth 100000 in
theorem pg_dec42 : ∀ q ∈ pg_c42, decode (pg_cc 42) q.1 = .ok (q.2.1, mj_len q.2) := by decide +kernel
set_option maxRecDepth 100000 in
theorem pg_dec43 : ∀ q ∈ pg_c43, decode (pg_cc 43) q.1 = .ok (q.2.1, mj_len q.2) := by decide +kernel
set_option maxRecDepth 100000 in
theorem pg_dec44 : ∀ q ∈ pg_c44, decode (pg_cc 44) q.1 = .ok (q.2.1, mj_len q.2) := by decide +kernel
set_option maxRecDepth 100000 in
theorem pg_dec45 : ∀ q ∈ pg_c45, decode (pg_cc 45) q.1 = .ok (q.2.1, mj_len q.2) := by decide +kernel
set_option maxRecDepth 100000 in
theorem pg_dec46 : ∀ q ∈ pg_c46, decode (pg_cc 46) q.1 = .ok (q.2.1, mj_len q.2) := by decide +kernel
set_option maxRecDepth 100000 in
theorem pg_dec47 : ∀ q ∈ pg_c47, decode (pg_cc 47) q.1 = .ok (q.2.1, mj_len q.2) := by decide +kernel
set_option maxRecDepth 100000 in
theorem pg_dec48 : ∀ q ∈ pg_c48, decode (pg_cc 48) q.1 = .ok (q.2.1, mj_len q.2) := by decide +kernel
set_option maxRecDepth 100000 in
theorem pg_dec49 : ∀ q ∈ pg_c49, decode (pg_cc 49) q.1 = .ok (q.2.1, mj_len q.2) := by decide +kernel
set_option maxRecDepth 100000 in
theorem pg_dec50 : ∀ q ∈ pg_c50, decode (pg_cc 50) q.1 = .ok (q.2.1, mj_len q.2) := by decide +kernel
set_option maxRecDepth 100000 in
theorem pg_dec51 : ∀ q ∈ pg_c51, decode (pg_cc 51) q.1 = .ok (q.2.1, mj_len q.2) := by decide +kernel
set_option maxRecDepth 100000 in
theorem pg_dec52 : ∀ q ∈ pg_c52, decode (pg_cc 52) q.1 = .ok (q.2.1, mj_len q.2) := by decide +kernel
set_option maxRecDepth 100000 in
theorem pg_dec53 : ∀ q ∈ pg_c53, decode (pg_cc 53) q.1 = .ok (q.2.1, mj_len q.2) := by decide +kernel
set_option maxRecDepth 100000 in
theorem pg_dec54 : ∀ q ∈ pg_c54, decode (pg_cc 54) q.1 = .ok (q.2.1, mj_len q.2) := by decide +kernel
set_option maxRecDepth 100000 in
theorem pg_dec55 : ∀ q ∈ pg_c55, decode (pg_cc 55) q.1 = .ok (q.2.1, mj_len q.2) := by decide +kernel
set_option maxRecDepth 100000 in
theorem pg_dec56 : ∀ q ∈ pg_c56, decode (pg_cc 56) q.1 = .ok (q.2.1, mj_len q.2) := by decide +kernel
set_option maxRecDepth 100000 in
theorem pg_dec57 : ∀ q ∈ pg_c57, decode (pg_cc 57) q.1 = .ok (q.2.1, mj_len q.2) := by decide +kernel
set_option maxRecDepth 100000 in
theorem pg_dec58 : ∀ q ∈ pg_c58, decode (pg_cc 58) q.1 = .ok (q.2.1, mj_len q.2) := by decide +kernel
set_option maxRecDepth 100000 in
theorem pg_dec59 : ∀ q ∈ pg_c59, decode (pg_cc 59) q.1 = .ok (q.2.1, mj_len q.2) := by decide +kernel
set_option maxRecDepth 100000 in
theorem pg_dec60 : ∀ q ∈ pg_c60, decode (pg_cc 60) q.1 = .ok (q.2.1, mj_len q.2) := by decide +kernel
set_option maxRecDepth 100000 in
theorem pg_dec61 : ∀ q ∈ pg_c61, decode (pg_cc 61) q.1 = .ok (q.2.1, mj_len q.2) := by decide +kernel
set_option maxRecDepth 100000 in
theorem pg_dec62 : ∀ q ∈ pg_c62, decode (pg_cc 62) q.1 = .ok (q.2.1, mj_len q.2) := by decide +kernel
set_option maxRecDepth 100000 in
theorem pg_dec63 : ∀ q ∈ pg_c63, decode (pg_cc 63) q.1 = .ok (q.2.1, mj_len q.2) := by decide +kernel
set_option maxRecDepth 100000 in
theorem pg_dec64 : ∀ q ∈ pg_c64, decode (pg_cc 64) q.1 = .ok (q.2.1, mj_len q.2) := by decide +kernel
set_option maxRecDepth 100000 in
theorem pg_dec65 : ∀ q ∈ pg_c65, decode (pg_cc 65) q.1 = .ok (q.2.1, mj_len q.2) := by decide +kernel
set_option maxRecDepth 100000 in
theorem pg_dec66 : ∀ q ∈ pg_c66, decode (pg_cc 66) q.1 = .ok (q.2.1, mj_len q.2) := by decide +kernel
set_option maxRecDepth 100000 in
theorem pg_dec67 : ∀ q ∈ pg_c67, decode (pg_cc 67) q.1 = .ok (q.2.1, mj_len q.2) := by decide +kernel
set_option maxRecDepth 100000 in
theorem pg_dec68 : ∀ q ∈ pg_c68, decode (pg_cc 68) q.1 = .ok (q.2.1, mj_len q.2) := by decide +kernel
set_option maxRecDepth 100000 in
theorem pg_dec69 : ∀ q ∈ pg_c69, decode (pg_cc 69) q.1 = .ok (q.2.1, mj_len q.2) := by decide +kernel
set_option maxRecDepth 100000 in
theorem pg_dec70 : ∀ q ∈ pg_c70, decode (pg_cc 70) q.1 = .ok (q.2.1, mj_len q.2) := by decide +kernel
set_option maxRecDepth 100000 in
theorem pg_dec71 : ∀ q ∈ pg_c71, decode (pg_cc 71) q.1 = .ok (q.2.1, mj_len q.2) := by decide +kernel
set_option maxRecDepth 100000 in
theorem pg_dec72 : ∀ q ∈ pg_c72, decode (pg_cc 72) q.1 = .ok (q.2.1, mj_len q.2) := by decide +kernel
set_option maxRecDepth 100000 in
theorem pg_dec73 : ∀ q ∈ pg_c73, decode (pg_cc 73) q.1 = .ok (q.2.1, mj_len q.2) := by decide +kernel
set_option maxRecDepth 100000 in
theorem pg_dec74 : ∀ q ∈ pg_c74, decode (pg_cc 74) q.1 = .ok (q.2.1, mj_len q.2) := by decide +kernel
set_option maxRecDepth 100000 in
theorem pg_dec75 : ∀ q ∈ pg_c75, decode (pg_cc 75) q.1 = .ok (q.2.1, mj_len q.2) := by decide +kernel
set_option maxRecDepth 100000 in
theorem pg_dec76 : ∀ q ∈ pg_c76, decode (pg_cc 76) q.1 = .ok (q.2.1, mj_len q.2) := by decide +kernel
set_option maxRecDepth 100000 in
theorem pg_dec77 : ∀ q ∈ pg_c77, decode (pg_cc 77) q.1 = .ok (q.2.1, mj_len q.2) := by decide +kernel
set_option maxRecDepth 100000 in
theorem pg_dec78 : ∀ q ∈ pg_c78, decode (pg_cc 78) q.1 = .ok (q.2.1, mj_len q.2) := by decide +kernel
set_option maxRecDepth 100000 in
theorem pg_dec79 : ∀ q ∈ pg_c79, decode (pg_cc 79) q.1 = .ok (q.2.1, mj_len q.2) := by decide +kernel
set_option maxRecDepth 100000 in
theorem pg_dec80 : ∀ q ∈ pg_c80, decode (pg_cc 80) q.1 = .ok (q.2.1, mj_len q.2) := by decide +kernel
set_option maxRecDepth 100000 in
theorem pg_dec81 : ∀ q ∈ pg_c81, decode (pg_cc 81) q.1 = .ok (q.2.1, mj_len q.2) := by decide +kernel
set_option maxRecDepth 100000 in
theorem pg_dec82 : ∀ q ∈ pg_c82, decode (pg_cc 82) q.1 = .ok (q.2.1, mj_len q.2) := by decide +kernel
set_option maxRecDepth 100000 in
theorem pg_dec83 : ∀ q ∈ pg_c83, decode (pg_cc 83) q.1 = .ok (q.2.1, mj_len q.2) := by decide +kernel
set_option maxRecDepth 100000 in
theorem pg_dec84 : ∀ q ∈ pg_c84, decode (pg_cc 84) q.1 = .ok (q.2.1, mj_len q.2) := by decide +kernel
set_option maxRecDepth 100000 in
theorem pg_dec85 : ∀ q ∈ pg_c85, decode (pg_cc 85) q.1 = .ok (q.2.1, mj_len q.2) := by decide +kernel
set_option maxRecDepth 100000 in
theorem pg_dec86 : ∀ q ∈ pg_c86, decode (pg_cc 86) q.1 = .ok (q.2.1, mj_len q.2) := by decide +kernel
set_option maxRecDepth 100000 in
theorem pg_dec87 : ∀ q ∈ pg_c87, decode (pg_cc 87) q.1 = .ok (q.2.1, mj_len q.2) := by decide +kernel
set_option maxRecDepth 100000 in
theorem pg_dec88 : ∀ q ∈ pg_c88, decode (pg_cc 88) q.1 = .ok (q.2.1, mj_len q.2) := by decide +kernel
set_option maxRecDepth 100000 in
theorem pg_dec89 : ∀ q ∈ pg_c89, decode (pg_cc 89) q.1 = .ok (q.2.1, mj_len q.2) := by decide +kernel
set_option maxRecDepth 100000 in
theorem pg_dec90 : ∀ q ∈ pg_c90, decode (pg_cc 90) q.1 = .ok (q.2.1, mj_len q.2) := by decide +kernel
set_option maxRecDepth 100000 in
theorem pg_dec91 : ∀ q ∈ pg_c91, decode (pg_cc 91) q.1 = .ok (q.2.1, mj_len q.2) := by decide +kernel
set_option maxRecDepth 100000 in
theorem pg_dec92 : ∀ q ∈ pg_c92, decode (pg_cc 92) q.1 = .ok (q.2.1, mj_len q.2) := by decide +kernel
set_option maxRecDepth 100000 in
theorem pg_dec93 : ∀ q ∈ pg_c93, decode (pg_cc 93) q.1 = .ok (q.2.1, mj_len q.2) := by decide +kernel
set_option maxRecDepth 100000 in
theorem pg_dec94 : ∀ q ∈ pg_c94, decode (pg_cc 94) q.1 = .ok (q.2.1, mj_len q.2) := by decide +kernel
set_option maxRecDepth 100000 in
theorem pg_dec95 : ∀ q ∈ pg_c95, decode (pg_cc 95) q.1 = .ok (q.2.1, mj_len q.2) := by decide +kernel
set_option maxRecDepth 100000 in
theorem pg_dec96 : ∀ q ∈ pg_c96, decode (pg_cc 96) q.1 = .ok (q.2.1, mj_len q.2) := by decide +kernel
set_option maxRecDepth 100000 in
theorem pg_dec97 : ∀ q ∈ pg_c97, decode (pg_cc 97) q.1 = .ok (q.2.1, mj_len q.2) := by decide +kernel
set_option maxRecDepth 100000 in
theorem pg_dec98 : ∀ q ∈ pg_c98, decode (pg_cc 98) q.1 = .ok (q.2.1, mj_len q.2) := by decide +kernel
set_option maxRecDepth 100000 in
theorem pg_dec99 : ∀ q ∈ pg_c99, decode (pg_cc 99) q.1 = .ok (q.2.1, mj_len q.2) := by decide +kernel
set_option maxRecDepth 100000 in
theorem pg_dec100 : ∀ q ∈ pg_c100, decode (pg_cc 100) q.1 = .ok (q.2.1, mj_len q.2) := by decide +kernel
set_option maxRecDepth 100000 in
theorem pg_dec101 : ∀ q ∈ pg_c101, decode (pg_cc 101) q.1 = .ok (q.2.1, mj_len q.2) := by decide +kernel
set_option maxRecDepth 100000 in
theorem pg_dec102 : ∀ q ∈ pg_c102, decode (pg_cc 102) q.1 = .ok (q.2.1, mj_len q.2) := by decide +kernel
