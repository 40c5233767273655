def t_run (xs : List Int32) : Option (Option Int32 × Nat × Nat × Nat) := match ev xs 1000000 100 296 0 [(0, .ref a_SC)] [] [] 0 0 with
  | some (.inl (some (.int x)), w, a, b) => some (some x, w.length, a, b)
  | some (_, w, a, b) => some (none, w.length, a, b)
  | none => none
#eval t_run []
#eval (List.range 64).map fun i => (i, t_run [Int32.ofNat i, 0, 0, 0, 0, 0, 0, 0])
#eval (List.range 64).map fun i => (i, t_run [Int32.ofNat i, 1, 1, 1, 1, 1, 1, 1])
#eval (List.range 64).map fun i => (i, t_run [Int32.ofNat i, -1, 5, 3, 2, 12, 1, 7])
#eval (List.range 64).map fun i => (i, t_run [Int32.ofNat i, 12, 5, 3, 0, 300, 33, 2])
