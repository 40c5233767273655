set_option maxRecDepth 1000000 in
theorem t_0 : ((ev (a_scr 0 (fun _ => 0)) 100000 100 296 0 [(0, .ref a_SC)] [] [] 0 0).map fun r => (r.1, r.2.2)) = some (.inl (some (.int 1)), 7, 7) := by decide +kernel
