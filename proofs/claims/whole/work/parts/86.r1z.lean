theorem op_iincN {P : mj_P} {d M pc len a b : Nat} (L : mj_L) (S : List mj_V) (h : mj_H) {k : Nat} {n : Int} {c : Int32} (hc : P.1 M pc = some (.iinc k n, len, a, b)) (hn : Int32.ofInt n = c) : mj_Rn P (d + 1) M (pc, L, S, h) = mj_lI L k (fun x => mj_sL L k (.inl (x + c)) (fun L' => mj_Rn P (d + 1) M (pc + 3, L', S, h))) := by
  subst hn
  exact op_iinc L S h hc
