def t_ok (xs : List Int32) : Bool := match ev xs 1000000 100 296 0 [(0, .ref a_SC)] [] [] 0 0 with
  | some (.inl (some (.int x)), _, a, b) => decide (x = 1) && (Nat.ble a 600002 && Nat.ble b 7302232)
  | _ => false
set_option maxRecDepth 1000000 in
theorem t_0 : t_ok [] = true := by decide +kernel
set_option maxRecDepth 1000000 in
theorem t_1 : t_ok [0, 0, 0, 0, 0, 0, 0, 0] = true := by decide +kernel
set_option maxRecDepth 1000000 in
theorem t_2 : ((List.range 11).all fun i => t_ok [Int32.ofNat (i + 1), 0, 0, 0, 0, 0, 0, 0]) = true := by decide +kernel
set_option maxRecDepth 1000000 in
theorem t_3 : ((List.range 10).all fun i => t_ok [Int32.ofNat (i + 12), 0, 0, 0, 0, 0, 0, 0]) = true := by decide +kernel
set_option maxRecDepth 1000000 in
theorem t_4 : ((List.range 10).all fun i => t_ok [Int32.ofNat (i + 22), 0, 0, 0, 0, 0, 0, 0]) = true := by decide +kernel
set_option maxRecDepth 1000000 in
theorem t_5 : ((List.range 12).all fun i => t_ok [Int32.ofNat (i + 32), 0, 0, 0, 0, 0, 0, 0]) = true := by decide +kernel
