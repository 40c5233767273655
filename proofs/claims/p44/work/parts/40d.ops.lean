/-! ===== the calls of the law 4 ===== -/
theorem qn_cc1064621 {P : Nat} {j : Int} (hP : P = 13 ∨ P = 25) : ¬ (((1 : Nat) = 0 ∧ j = 13) ∨ (1 : Nat) = (P + 10) ∨ (1 : Nat) = (P + 11) ∨ ((1 : Nat) = 9 ∧ j = 0) ∨ (1 : Nat) = 40) := (fun q => q.elim (fun h => absurd h.1 (nn rfl)) (fun q => q.elim (fun h => absurd h (pn hP rfl rfl)) (fun q => q.elim (fun h => absurd h (pn hP rfl rfl)) (fun q => q.elim (fun h => absurd h.1 (nn rfl)) (fun h => absurd h (nn rfl))))))
theorem qn_9d94bd60f {j : Int} : ¬ (((1 : Nat) = 41 ∧ j = 0) ∨ (1 : Nat) = 42 ∨ ((1 : Nat) = 41 ∧ j = 50) ∨ (1 : Nat) = 59 ∨ (1 : Nat) = 54 ∨ (1 : Nat) = 55) := (fun q => q.elim (fun h => absurd h.1 (nn rfl)) (fun q => q.elim (fun h => absurd h (nn rfl)) (fun q => q.elim (fun h => absurd h.1 (nn rfl)) (fun q => q.elim (fun h => absurd h (nn rfl)) (fun q => q.elim (fun h => absurd h (nn rfl)) (fun h => absurd h (nn rfl)))))))
theorem qn_55346d250 {P : Nat} {j : Int} (hP : P = 13 ∨ P = 25) : ¬ (((41 : Nat) = 0 ∧ j = 13) ∨ (41 : Nat) = (P + 10) ∨ (41 : Nat) = (P + 11) ∨ ((41 : Nat) = 9 ∧ j = 0) ∨ (41 : Nat) = 40) := (fun q => q.elim (fun h => absurd h.1 (nn rfl)) (fun q => q.elim (fun h => absurd h (pn hP rfl rfl)) (fun q => q.elim (fun h => absurd h (pn hP rfl rfl)) (fun q => q.elim (fun h => absurd h.1 (nn rfl)) (fun h => absurd h (nn rfl))))))
theorem qn_9f4d5821f : ¬ (((41 : Nat) = 41 ∧ (2 : Int) = 0) ∨ (41 : Nat) = 42 ∨ ((41 : Nat) = 41 ∧ (2 : Int) = 50) ∨ (41 : Nat) = 59 ∨ (41 : Nat) = 54 ∨ (41 : Nat) = 55) := (fun q => q.elim (fun h => absurd h.2 (ni rfl)) (fun q => q.elim (fun h => absurd h (nn rfl)) (fun q => q.elim (fun h => absurd h.2 (ni rfl)) (fun q => q.elim (fun h => absurd h (nn rfl)) (fun q => q.elim (fun h => absurd h (nn rfl)) (fun h => absurd h (nn rfl)))))))
theorem qn_1a125c37c {P : Nat} {j : Int} (hP : P = 13 ∨ P = 25) : ¬ ((P = 0 ∧ j = 13) ∨ P = (P + 10) ∨ P = (P + 11) ∨ (P = 9 ∧ j = 0) ∨ P = 40) := (fun q => q.elim (fun h => absurd h.1 (np0 hP rfl)) (fun q => q.elim (fun h => absurd h (p0p rfl)) (fun q => q.elim (fun h => absurd h (p0p rfl)) (fun q => q.elim (fun h => absurd h.1 (np0 hP rfl)) (fun h => absurd h (np0 hP rfl))))))
theorem qn_3dda11c13 {P : Nat} {j : Int} (hP : P = 13 ∨ P = 25) : ¬ ((P = 41 ∧ j = 0) ∨ P = 42 ∨ (P = 41 ∧ j = 50) ∨ P = 59 ∨ P = 54 ∨ P = 55) := (fun q => q.elim (fun h => absurd h.1 (np0 hP rfl)) (fun q => q.elim (fun h => absurd h (np0 hP rfl)) (fun q => q.elim (fun h => absurd h.1 (np0 hP rfl)) (fun q => q.elim (fun h => absurd h (np0 hP rfl)) (fun q => q.elim (fun h => absurd h (np0 hP rfl)) (fun h => absurd h (np0 hP rfl)))))))
theorem qn_de1d671ad : ¬ (((41 : Nat) = 41 ∧ (20 : Int) = 0) ∨ (41 : Nat) = 42 ∨ ((41 : Nat) = 41 ∧ (20 : Int) = 50) ∨ (41 : Nat) = 59 ∨ (41 : Nat) = 54 ∨ (41 : Nat) = 55) := (fun q => q.elim (fun h => absurd h.2 (ni rfl)) (fun q => q.elim (fun h => absurd h (nn rfl)) (fun q => q.elim (fun h => absurd h.2 (ni rfl)) (fun q => q.elim (fun h => absurd h (nn rfl)) (fun q => q.elim (fun h => absurd h (nn rfl)) (fun h => absurd h (nn rfl)))))))
theorem qn_b0c4591b1 : ¬ (((41 : Nat) = 41 ∧ (21 : Int) = 0) ∨ (41 : Nat) = 42 ∨ ((41 : Nat) = 41 ∧ (21 : Int) = 50) ∨ (41 : Nat) = 59 ∨ (41 : Nat) = 54 ∨ (41 : Nat) = 55) := (fun q => q.elim (fun h => absurd h.2 (ni rfl)) (fun q => q.elim (fun h => absurd h (nn rfl)) (fun q => q.elim (fun h => absurd h.2 (ni rfl)) (fun q => q.elim (fun h => absurd h (nn rfl)) (fun q => q.elim (fun h => absurd h (nn rfl)) (fun h => absurd h (nn rfl)))))))
theorem qn_00a455246 : ¬ (((41 : Nat) = 41 ∧ (22 : Int) = 0) ∨ (41 : Nat) = 42 ∨ ((41 : Nat) = 41 ∧ (22 : Int) = 50) ∨ (41 : Nat) = 59 ∨ (41 : Nat) = 54 ∨ (41 : Nat) = 55) := (fun q => q.elim (fun h => absurd h.2 (ni rfl)) (fun q => q.elim (fun h => absurd h (nn rfl)) (fun q => q.elim (fun h => absurd h.2 (ni rfl)) (fun q => q.elim (fun h => absurd h (nn rfl)) (fun q => q.elim (fun h => absurd h (nn rfl)) (fun h => absurd h (nn rfl)))))))
theorem qn_375070522 : ¬ (((41 : Nat) = 41 ∧ (23 : Int) = 0) ∨ (41 : Nat) = 42 ∨ ((41 : Nat) = 41 ∧ (23 : Int) = 50) ∨ (41 : Nat) = 59 ∨ (41 : Nat) = 54 ∨ (41 : Nat) = 55) := (fun q => q.elim (fun h => absurd h.2 (ni rfl)) (fun q => q.elim (fun h => absurd h (nn rfl)) (fun q => q.elim (fun h => absurd h.2 (ni rfl)) (fun q => q.elim (fun h => absurd h (nn rfl)) (fun q => q.elim (fun h => absurd h (nn rfl)) (fun h => absurd h (nn rfl)))))))
theorem qn_8703343bc {P : Nat} {j : Int} (hP : P = 13 ∨ P = 25) : ¬ (((3 : Nat) = 0 ∧ j = 13) ∨ (3 : Nat) = (P + 10) ∨ (3 : Nat) = (P + 11) ∨ ((3 : Nat) = 9 ∧ j = 0) ∨ (3 : Nat) = 40) := (fun q => q.elim (fun h => absurd h.1 (nn rfl)) (fun q => q.elim (fun h => absurd h (pn hP rfl rfl)) (fun q => q.elim (fun h => absurd h (pn hP rfl rfl)) (fun q => q.elim (fun h => absurd h.1 (nn rfl)) (fun h => absurd h (nn rfl))))))
theorem qn_51e0e9667 {j : Int} : ¬ (((3 : Nat) = 41 ∧ j = 0) ∨ (3 : Nat) = 42 ∨ ((3 : Nat) = 41 ∧ j = 50) ∨ (3 : Nat) = 59 ∨ (3 : Nat) = 54 ∨ (3 : Nat) = 55) := (fun q => q.elim (fun h => absurd h.1 (nn rfl)) (fun q => q.elim (fun h => absurd h (nn rfl)) (fun q => q.elim (fun h => absurd h.1 (nn rfl)) (fun q => q.elim (fun h => absurd h (nn rfl)) (fun q => q.elim (fun h => absurd h (nn rfl)) (fun h => absurd h (nn rfl)))))))
theorem qn_5c50dd497 : ¬ (((41 : Nat) = 41 ∧ (52 : Int) = 0) ∨ (41 : Nat) = 42 ∨ ((41 : Nat) = 41 ∧ (52 : Int) = 50) ∨ (41 : Nat) = 59 ∨ (41 : Nat) = 54 ∨ (41 : Nat) = 55) := (fun q => q.elim (fun h => absurd h.2 (ni rfl)) (fun q => q.elim (fun h => absurd h (nn rfl)) (fun q => q.elim (fun h => absurd h.2 (ni rfl)) (fun q => q.elim (fun h => absurd h (nn rfl)) (fun q => q.elim (fun h => absurd h (nn rfl)) (fun h => absurd h (nn rfl)))))))
theorem qn_e74909efc : ¬ (((41 : Nat) = 41 ∧ (35 : Int) = 0) ∨ (41 : Nat) = 42 ∨ ((41 : Nat) = 41 ∧ (35 : Int) = 50) ∨ (41 : Nat) = 59 ∨ (41 : Nat) = 54 ∨ (41 : Nat) = 55) := (fun q => q.elim (fun h => absurd h.2 (ni rfl)) (fun q => q.elim (fun h => absurd h (nn rfl)) (fun q => q.elim (fun h => absurd h.2 (ni rfl)) (fun q => q.elim (fun h => absurd h (nn rfl)) (fun q => q.elim (fun h => absurd h (nn rfl)) (fun h => absurd h (nn rfl)))))))
theorem qn_ea1d8203a {j : Int} : ¬ (((2 : Nat) = 41 ∧ j = 0) ∨ (2 : Nat) = 42 ∨ ((2 : Nat) = 41 ∧ j = 50) ∨ (2 : Nat) = 59 ∨ (2 : Nat) = 54 ∨ (2 : Nat) = 55) := (fun q => q.elim (fun h => absurd h.1 (nn rfl)) (fun q => q.elim (fun h => absurd h (nn rfl)) (fun q => q.elim (fun h => absurd h.1 (nn rfl)) (fun q => q.elim (fun h => absurd h (nn rfl)) (fun q => q.elim (fun h => absurd h (nn rfl)) (fun h => absurd h (nn rfl)))))))
theorem qn_11c530ba0 {P : Nat} {j : Int} (hP : P = 13 ∨ P = 25) : ¬ (((2 : Nat) = 0 ∧ j = 13) ∨ (2 : Nat) = (P + 10) ∨ (2 : Nat) = (P + 11) ∨ ((2 : Nat) = 9 ∧ j = 0) ∨ (2 : Nat) = 40) := (fun q => q.elim (fun h => absurd h.1 (nn rfl)) (fun q => q.elim (fun h => absurd h (pn hP rfl rfl)) (fun q => q.elim (fun h => absurd h (pn hP rfl rfl)) (fun q => q.elim (fun h => absurd h.1 (nn rfl)) (fun h => absurd h (nn rfl))))))
theorem qn_921fc31f7 {j : Int} : ¬ (((43 : Nat) = 41 ∧ j = 0) ∨ (43 : Nat) = 42 ∨ ((43 : Nat) = 41 ∧ j = 50) ∨ (43 : Nat) = 59 ∨ (43 : Nat) = 54 ∨ (43 : Nat) = 55) := (fun q => q.elim (fun h => absurd h.1 (nn rfl)) (fun q => q.elim (fun h => absurd h (nn rfl)) (fun q => q.elim (fun h => absurd h.1 (nn rfl)) (fun q => q.elim (fun h => absurd h (nn rfl)) (fun q => q.elim (fun h => absurd h (nn rfl)) (fun h => absurd h (nn rfl)))))))
theorem qn_ce891e06c {P : Nat} {j : Int} (hP : P = 13 ∨ P = 25) : ¬ (((43 : Nat) = 0 ∧ j = 13) ∨ (43 : Nat) = (P + 10) ∨ (43 : Nat) = (P + 11) ∨ ((43 : Nat) = 9 ∧ j = 0) ∨ (43 : Nat) = 40) := (fun q => q.elim (fun h => absurd h.1 (nn rfl)) (fun q => q.elim (fun h => absurd h (pn hP rfl rfl)) (fun q => q.elim (fun h => absurd h (pn hP rfl rfl)) (fun q => q.elim (fun h => absurd h.1 (nn rfl)) (fun h => absurd h (nn rfl))))))
theorem qn_9f1fcb8f5 {j : Int} : ¬ (((6 : Nat) = 41 ∧ j = 0) ∨ (6 : Nat) = 42 ∨ ((6 : Nat) = 41 ∧ j = 50) ∨ (6 : Nat) = 59 ∨ (6 : Nat) = 54 ∨ (6 : Nat) = 55) := (fun q => q.elim (fun h => absurd h.1 (nn rfl)) (fun q => q.elim (fun h => absurd h (nn rfl)) (fun q => q.elim (fun h => absurd h.1 (nn rfl)) (fun q => q.elim (fun h => absurd h (nn rfl)) (fun q => q.elim (fun h => absurd h (nn rfl)) (fun h => absurd h (nn rfl)))))))
theorem qn_33622cbee {P : Nat} {j : Int} (hP : P = 13 ∨ P = 25) : ¬ (((6 : Nat) = 0 ∧ j = 13) ∨ (6 : Nat) = (P + 10) ∨ (6 : Nat) = (P + 11) ∨ ((6 : Nat) = 9 ∧ j = 0) ∨ (6 : Nat) = 40) := (fun q => q.elim (fun h => absurd h.1 (nn rfl)) (fun q => q.elim (fun h => absurd h (pn hP rfl rfl)) (fun q => q.elim (fun h => absurd h (pn hP rfl rfl)) (fun q => q.elim (fun h => absurd h.1 (nn rfl)) (fun h => absurd h (nn rfl))))))
theorem qn_819b02093 {j : Int} : ¬ (((66 : Nat) = 41 ∧ j = 0) ∨ (66 : Nat) = 42 ∨ ((66 : Nat) = 41 ∧ j = 50) ∨ (66 : Nat) = 59 ∨ (66 : Nat) = 54 ∨ (66 : Nat) = 55) := (fun q => q.elim (fun h => absurd h.1 (nn rfl)) (fun q => q.elim (fun h => absurd h (nn rfl)) (fun q => q.elim (fun h => absurd h.1 (nn rfl)) (fun q => q.elim (fun h => absurd h (nn rfl)) (fun q => q.elim (fun h => absurd h (nn rfl)) (fun h => absurd h (nn rfl)))))))
theorem qn_7036d22af {P : Nat} {j : Int} (hP : P = 13 ∨ P = 25) : ¬ (((66 : Nat) = 0 ∧ j = 13) ∨ (66 : Nat) = (P + 10) ∨ (66 : Nat) = (P + 11) ∨ ((66 : Nat) = 9 ∧ j = 0) ∨ (66 : Nat) = 40) := (fun q => q.elim (fun h => absurd h.1 (nn rfl)) (fun q => q.elim (fun h => absurd h (pn hP rfl rfl)) (fun q => q.elim (fun h => absurd h (pn hP rfl rfl)) (fun q => q.elim (fun h => absurd h.1 (nn rfl)) (fun h => absurd h (nn rfl))))))
theorem q_242ba7c82 {x0 : Int} (f0 : 0 ≤ x0 ∧ x0 ≤ 3) (f1 : x0 ≠ 3) : x0 < 3 := by omega
theorem q_d56973fb2 {x0 : Int} (f0 : x0 = 0) : x0 = 0 := by omega
theorem q_bdd517da6 {x0 : Int} (f0 : x0 = 1) : (-2147483648) ≤ x0 := by omega
theorem q_71ca93a6c {x0 : Int} (f0 : x0 = 1) : x0 ≤ 2147483647 := by omega
theorem q_2cc7dee0d {x0 : Int} (f0 : x0 = 2) : (-2147483648) ≤ x0 := by omega
theorem q_7592719db {x0 : Int} (f0 : x0 = 2) : x0 ≤ 2147483647 := by omega
theorem c_296_1437 : mLk 296 1437 = some (.aload_n 1, 1) := rfl
theorem c_296_1438 : mLk 296 1438 = some (.aload_n 0, 1) := rfl
theorem c_296_1439 : mLk 296 1439 = some (.iload 4, 2) := rfl
theorem c_296_1441 : mLk 296 1441 = some (.iconst 1, 1) := rfl
theorem c_296_1442 : mLk 296 1442 = some (.iadd, 1) := rfl
theorem c_296_1443 : mLk 296 1443 = some (.iaload, 1) := rfl
theorem c_296_1444 : mLk 296 1444 = some (.aload_n 3, 1) := rfl
theorem c_296_1445 : mLk 296 1445 = some (.invokestatic 233, 3) := rfl
theorem c_290_0 : mLk 290 0 = some (.aload_n 2, 1) := rfl
theorem c_290_1 : mLk 290 1 = some (.iconst 0, 1) := rfl
theorem c_290_2 : mLk 290 2 = some (.aload_n 0, 1) := rfl
theorem c_290_3 : mLk 290 3 = some (.iload_n 1, 1) := rfl
theorem c_290_4 : mLk 290 4 = some (.invokevirtual 99, 3) := rfl
theorem c_296_1448 : mLk 296 1448 = some (.istore 5, 2) := rfl
theorem c_296_1450 : mLk 296 1450 = some (.aload_n 2, 1) := rfl
theorem c_296_1451 : mLk 296 1451 = some (.aload_n 0, 1) := rfl
theorem c_296_1452 : mLk 296 1452 = some (.iload 4, 2) := rfl
theorem c_296_1454 : mLk 296 1454 = some (.iconst 1, 1) := rfl
theorem c_296_1455 : mLk 296 1455 = some (.iadd, 1) := rfl
theorem c_296_1456 : mLk 296 1456 = some (.iaload, 1) := rfl
theorem c_296_1457 : mLk 296 1457 = some (.invokevirtual 235, 3) := rfl
theorem c_296_1460 : mLk 296 1460 = some (.istore 6, 2) := rfl
theorem c_296_1462 : mLk 296 1462 = some (.goto 354, 3) := rfl
theorem c_290_7 : mLk 290 7 = some (.i2l, 1) := rfl
theorem c_290_8 : mLk 290 8 = some (.lastore, 1) := rfl
theorem c_290_9 : mLk 290 9 = some (.goto 6, 3) := rfl
theorem c_290_15 : mLk 290 15 = some (.iconst 0, 1) := rfl
theorem c_290_16 : mLk 290 16 = some (.ireturn, 1) := rfl
theorem c_296_1465 : mLk 296 1465 = some (.aload_n 1, 1) := rfl
theorem c_296_1466 : mLk 296 1466 = some (.aload_n 0, 1) := rfl
theorem c_296_1467 : mLk 296 1467 = some (.iload 4, 2) := rfl
theorem c_296_1469 : mLk 296 1469 = some (.iconst 1, 1) := rfl
theorem c_296_1470 : mLk 296 1470 = some (.iadd, 1) := rfl
theorem c_296_1471 : mLk 296 1471 = some (.iaload, 1) := rfl
theorem c_296_1472 : mLk 296 1472 = some (.aload_n 0, 1) := rfl
theorem c_296_1473 : mLk 296 1473 = some (.iload 4, 2) := rfl
theorem c_296_1475 : mLk 296 1475 = some (.iconst 2, 1) := rfl
theorem c_296_1476 : mLk 296 1476 = some (.iadd, 1) := rfl
theorem c_296_1477 : mLk 296 1477 = some (.iaload, 1) := rfl
theorem c_296_1478 : mLk 296 1478 = some (.aload_n 3, 1) := rfl
theorem c_296_1479 : mLk 296 1479 = some (.invokestatic 236, 3) := rfl
theorem c_291_0 : mLk 291 0 = some (.aload_n 3, 1) := rfl
theorem c_291_1 : mLk 291 1 = some (.iconst 0, 1) := rfl
theorem c_291_2 : mLk 291 2 = some (.aload_n 0, 1) := rfl
theorem c_291_3 : mLk 291 3 = some (.iload_n 1, 1) := rfl
theorem c_291_4 : mLk 291 4 = some (.iload_n 2, 1) := rfl
theorem c_291_5 : mLk 291 5 = some (.invokevirtual 102, 3) := rfl
theorem c_296_1482 : mLk 296 1482 = some (.istore 5, 2) := rfl
theorem c_296_1484 : mLk 296 1484 = some (.aload_n 2, 1) := rfl
theorem c_296_1485 : mLk 296 1485 = some (.aload_n 0, 1) := rfl
theorem c_296_1486 : mLk 296 1486 = some (.iload 4, 2) := rfl
theorem c_296_1488 : mLk 296 1488 = some (.iconst 1, 1) := rfl
theorem c_296_1489 : mLk 296 1489 = some (.iadd, 1) := rfl
theorem c_296_1490 : mLk 296 1490 = some (.iaload, 1) := rfl
theorem c_296_1491 : mLk 296 1491 = some (.aload_n 0, 1) := rfl
theorem c_296_1492 : mLk 296 1492 = some (.iload 4, 2) := rfl
theorem c_296_1494 : mLk 296 1494 = some (.iconst 2, 1) := rfl
theorem c_296_1495 : mLk 296 1495 = some (.iadd, 1) := rfl
theorem c_296_1496 : mLk 296 1496 = some (.iaload, 1) := rfl
theorem c_296_1497 : mLk 296 1497 = some (.invokevirtual 238, 3) := rfl
theorem c_296_1500 : mLk 296 1500 = some (.istore 6, 2) := rfl
theorem c_296_1502 : mLk 296 1502 = some (.goto 314, 3) := rfl
theorem c_291_8 : mLk 291 8 = some (.i2l, 1) := rfl
theorem c_291_9 : mLk 291 9 = some (.lastore, 1) := rfl
theorem c_291_10 : mLk 291 10 = some (.goto 7, 3) := rfl
theorem c_291_17 : mLk 291 17 = some (.iconst 0, 1) := rfl
theorem c_291_18 : mLk 291 18 = some (.ireturn, 1) := rfl
theorem c_296_1505 : mLk 296 1505 = some (.aload_n 1, 1) := rfl
theorem c_296_1506 : mLk 296 1506 = some (.invokevirtual 239, 3) := rfl
theorem c_296_1509 : mLk 296 1509 = some (.pop, 1) := rfl
theorem c_296_1510 : mLk 296 1510 = some (.aload_n 2, 1) := rfl
theorem c_296_1511 : mLk 296 1511 = some (.invokevirtual 242, 3) := rfl
theorem c_296_1514 : mLk 296 1514 = some (.pop, 1) := rfl
theorem c_296_1515 : mLk 296 1515 = some (.goto 301, 3) := rfl
theorem c_296_1518 : mLk 296 1518 = some (.aload_n 1, 1) := rfl
theorem c_296_1519 : mLk 296 1519 = some (.aload_n 0, 1) := rfl
theorem c_296_1520 : mLk 296 1520 = some (.iload 4, 2) := rfl
theorem c_296_1522 : mLk 296 1522 = some (.iconst 1, 1) := rfl
theorem c_296_1523 : mLk 296 1523 = some (.iadd, 1) := rfl
theorem c_296_1524 : mLk 296 1524 = some (.iaload, 1) := rfl
theorem c_296_1525 : mLk 296 1525 = some (.aload_n 3, 1) := rfl
theorem c_296_1526 : mLk 296 1526 = some (.invokestatic 243, 3) := rfl
theorem c_292_0 : mLk 292 0 = some (.aload_n 2, 1) := rfl
theorem c_292_1 : mLk 292 1 = some (.iconst 0, 1) := rfl
theorem c_292_2 : mLk 292 2 = some (.aload_n 0, 1) := rfl
theorem c_292_3 : mLk 292 3 = some (.iload_n 1, 1) := rfl
theorem c_292_4 : mLk 292 4 = some (.invokevirtual 105, 3) := rfl
theorem c_296_1529 : mLk 296 1529 = some (.istore 5, 2) := rfl
theorem c_296_1531 : mLk 296 1531 = some (.aload_n 2, 1) := rfl
theorem c_296_1532 : mLk 296 1532 = some (.aload_n 0, 1) := rfl
theorem c_296_1533 : mLk 296 1533 = some (.iload 4, 2) := rfl
theorem c_296_1535 : mLk 296 1535 = some (.iconst 1, 1) := rfl
theorem c_296_1536 : mLk 296 1536 = some (.iadd, 1) := rfl
theorem c_296_1537 : mLk 296 1537 = some (.iaload, 1) := rfl
theorem c_296_1538 : mLk 296 1538 = some (.invokevirtual 245, 3) := rfl
theorem c_296_1541 : mLk 296 1541 = some (.istore 6, 2) := rfl
theorem c_296_1543 : mLk 296 1543 = some (.goto 273, 3) := rfl
theorem c_292_7 : mLk 292 7 = some (.i2l, 1) := rfl
theorem c_292_8 : mLk 292 8 = some (.lastore, 1) := rfl
theorem c_292_9 : mLk 292 9 = some (.goto 6, 3) := rfl
theorem c_292_15 : mLk 292 15 = some (.iconst 0, 1) := rfl
theorem c_292_16 : mLk 292 16 = some (.ireturn, 1) := rfl
theorem c_296_1546 : mLk 296 1546 = some (.aload_n 1, 1) := rfl
theorem c_296_1547 : mLk 296 1547 = some (.aload_n 0, 1) := rfl
theorem c_296_1548 : mLk 296 1548 = some (.iload 4, 2) := rfl
theorem c_296_1550 : mLk 296 1550 = some (.iconst 1, 1) := rfl
theorem c_296_1551 : mLk 296 1551 = some (.iadd, 1) := rfl
theorem c_296_1552 : mLk 296 1552 = some (.iaload, 1) := rfl
theorem c_296_1553 : mLk 296 1553 = some (.aload_n 0, 1) := rfl
theorem c_296_1554 : mLk 296 1554 = some (.iload 4, 2) := rfl
theorem c_296_1556 : mLk 296 1556 = some (.iconst 2, 1) := rfl
theorem c_296_1557 : mLk 296 1557 = some (.iadd, 1) := rfl
theorem c_296_1558 : mLk 296 1558 = some (.iaload, 1) := rfl
theorem c_296_1559 : mLk 296 1559 = some (.aload_n 3, 1) := rfl
theorem c_296_1560 : mLk 296 1560 = some (.invokestatic 246, 3) := rfl
theorem c_293_0 : mLk 293 0 = some (.aload_n 3, 1) := rfl
theorem c_293_1 : mLk 293 1 = some (.iconst 0, 1) := rfl
theorem c_293_2 : mLk 293 2 = some (.aload_n 0, 1) := rfl
theorem c_293_3 : mLk 293 3 = some (.iload_n 1, 1) := rfl
theorem c_293_4 : mLk 293 4 = some (.iload_n 2, 1) := rfl
theorem c_293_5 : mLk 293 5 = some (.invokevirtual 108, 3) := rfl
theorem c_296_1563 : mLk 296 1563 = some (.istore 5, 2) := rfl
theorem c_296_1565 : mLk 296 1565 = some (.aload_n 2, 1) := rfl
theorem c_296_1566 : mLk 296 1566 = some (.aload_n 0, 1) := rfl
theorem c_296_1567 : mLk 296 1567 = some (.iload 4, 2) := rfl
theorem c_296_1569 : mLk 296 1569 = some (.iconst 1, 1) := rfl
theorem c_296_1570 : mLk 296 1570 = some (.iadd, 1) := rfl
theorem c_296_1571 : mLk 296 1571 = some (.iaload, 1) := rfl
theorem c_296_1572 : mLk 296 1572 = some (.aload_n 0, 1) := rfl
theorem c_296_1573 : mLk 296 1573 = some (.iload 4, 2) := rfl
theorem c_296_1575 : mLk 296 1575 = some (.iconst 2, 1) := rfl
theorem c_296_1576 : mLk 296 1576 = some (.iadd, 1) := rfl
theorem c_296_1577 : mLk 296 1577 = some (.iaload, 1) := rfl
theorem c_296_1578 : mLk 296 1578 = some (.invokevirtual 248, 3) := rfl
theorem c_296_1581 : mLk 296 1581 = some (.istore 6, 2) := rfl
theorem c_296_1583 : mLk 296 1583 = some (.goto 233, 3) := rfl
theorem c_293_8 : mLk 293 8 = some (.i2l, 1) := rfl
theorem c_293_9 : mLk 293 9 = some (.lastore, 1) := rfl
theorem c_293_10 : mLk 293 10 = some (.goto 11, 3) := rfl
theorem c_293_21 : mLk 293 21 = some (.iconst 0, 1) := rfl
theorem c_293_22 : mLk 293 22 = some (.ireturn, 1) := rfl
theorem c_296_1586 : mLk 296 1586 = some (.aload_n 1, 1) := rfl
theorem c_296_1587 : mLk 296 1587 = some (.aload_n 0, 1) := rfl
theorem c_296_1588 : mLk 296 1588 = some (.iload 4, 2) := rfl
theorem c_296_1590 : mLk 296 1590 = some (.iconst 1, 1) := rfl
theorem c_296_1591 : mLk 296 1591 = some (.iadd, 1) := rfl
theorem c_296_1592 : mLk 296 1592 = some (.iaload, 1) := rfl
theorem c_296_1593 : mLk 296 1593 = some (.aload_n 0, 1) := rfl
theorem c_296_1594 : mLk 296 1594 = some (.iload 4, 2) := rfl
theorem c_296_1596 : mLk 296 1596 = some (.iconst 2, 1) := rfl
theorem c_296_1597 : mLk 296 1597 = some (.iadd, 1) := rfl
theorem c_296_1598 : mLk 296 1598 = some (.iaload, 1) := rfl
theorem c_296_1599 : mLk 296 1599 = some (.aload_n 0, 1) := rfl
theorem c_296_1600 : mLk 296 1600 = some (.iload 4, 2) := rfl
theorem c_296_1602 : mLk 296 1602 = some (.iconst 3, 1) := rfl
theorem c_296_1603 : mLk 296 1603 = some (.iadd, 1) := rfl
theorem c_296_1604 : mLk 296 1604 = some (.iaload, 1) := rfl
theorem c_296_1605 : mLk 296 1605 = some (.aload_n 0, 1) := rfl
theorem c_296_1606 : mLk 296 1606 = some (.iload 4, 2) := rfl
theorem c_296_1608 : mLk 296 1608 = some (.iconst 4, 1) := rfl
theorem c_296_1609 : mLk 296 1609 = some (.iadd, 1) := rfl
theorem c_296_1610 : mLk 296 1610 = some (.iaload, 1) := rfl
theorem c_296_1611 : mLk 296 1611 = some (.aload_n 3, 1) := rfl
theorem c_296_1612 : mLk 296 1612 = some (.invokestatic 249, 3) := rfl
theorem c_294_0 : mLk 294 0 = some (.aload 5, 2) := rfl
theorem c_294_2 : mLk 294 2 = some (.iconst 0, 1) := rfl
theorem c_294_3 : mLk 294 3 = some (.aload_n 0, 1) := rfl
theorem c_294_4 : mLk 294 4 = some (.iload_n 1, 1) := rfl
theorem c_294_5 : mLk 294 5 = some (.iload_n 2, 1) := rfl
theorem c_294_6 : mLk 294 6 = some (.iload_n 3, 1) := rfl
theorem c_294_7 : mLk 294 7 = some (.iload 4, 2) := rfl
theorem c_294_9 : mLk 294 9 = some (.invokevirtual 111, 3) := rfl
theorem c_296_1615 : mLk 296 1615 = some (.istore 5, 2) := rfl
theorem c_296_1617 : mLk 296 1617 = some (.aload_n 2, 1) := rfl
theorem c_296_1618 : mLk 296 1618 = some (.aload_n 0, 1) := rfl
theorem c_296_1619 : mLk 296 1619 = some (.iload 4, 2) := rfl
theorem c_296_1621 : mLk 296 1621 = some (.iconst 1, 1) := rfl
theorem c_296_1622 : mLk 296 1622 = some (.iadd, 1) := rfl
theorem c_296_1623 : mLk 296 1623 = some (.iaload, 1) := rfl
theorem c_296_1624 : mLk 296 1624 = some (.aload_n 0, 1) := rfl
theorem c_296_1625 : mLk 296 1625 = some (.iload 4, 2) := rfl
theorem c_296_1627 : mLk 296 1627 = some (.iconst 2, 1) := rfl
theorem c_296_1628 : mLk 296 1628 = some (.iadd, 1) := rfl
theorem c_296_1629 : mLk 296 1629 = some (.iaload, 1) := rfl
theorem c_296_1630 : mLk 296 1630 = some (.aload_n 0, 1) := rfl
theorem c_296_1631 : mLk 296 1631 = some (.iload 4, 2) := rfl
theorem c_296_1633 : mLk 296 1633 = some (.iconst 3, 1) := rfl
theorem c_296_1634 : mLk 296 1634 = some (.iadd, 1) := rfl
theorem c_296_1635 : mLk 296 1635 = some (.iaload, 1) := rfl
theorem c_296_1636 : mLk 296 1636 = some (.aload_n 0, 1) := rfl
theorem c_296_1637 : mLk 296 1637 = some (.iload 4, 2) := rfl
theorem c_296_1639 : mLk 296 1639 = some (.iconst 4, 1) := rfl
theorem c_296_1640 : mLk 296 1640 = some (.iadd, 1) := rfl
theorem c_296_1641 : mLk 296 1641 = some (.iaload, 1) := rfl
theorem c_296_1642 : mLk 296 1642 = some (.invokevirtual 251, 3) := rfl
theorem c_296_1645 : mLk 296 1645 = some (.istore 6, 2) := rfl
theorem c_296_1647 : mLk 296 1647 = some (.goto 169, 3) := rfl
theorem c_294_12 : mLk 294 12 = some (.i2l, 1) := rfl
theorem c_294_13 : mLk 294 13 = some (.lastore, 1) := rfl
theorem c_294_14 : mLk 294 14 = some (.goto 7, 3) := rfl
theorem c_294_21 : mLk 294 21 = some (.iconst 0, 1) := rfl
theorem c_294_22 : mLk 294 22 = some (.ireturn, 1) := rfl
theorem c_296_1650 : mLk 296 1650 = some (.aload_n 1, 1) := rfl
theorem c_296_1651 : mLk 296 1651 = some (.aload_n 0, 1) := rfl
theorem c_296_1652 : mLk 296 1652 = some (.iload 4, 2) := rfl
theorem c_296_1654 : mLk 296 1654 = some (.iconst 1, 1) := rfl
theorem c_296_1655 : mLk 296 1655 = some (.iadd, 1) := rfl
theorem c_296_1656 : mLk 296 1656 = some (.iaload, 1) := rfl
theorem c_296_1657 : mLk 296 1657 = some (.aload_n 0, 1) := rfl
theorem c_296_1658 : mLk 296 1658 = some (.iload 4, 2) := rfl
theorem c_296_1660 : mLk 296 1660 = some (.iconst 2, 1) := rfl
theorem c_296_1661 : mLk 296 1661 = some (.iadd, 1) := rfl
theorem c_296_1662 : mLk 296 1662 = some (.iaload, 1) := rfl
theorem c_296_1663 : mLk 296 1663 = some (.aload_n 0, 1) := rfl
theorem c_296_1664 : mLk 296 1664 = some (.iload 4, 2) := rfl
theorem c_296_1666 : mLk 296 1666 = some (.iconst 3, 1) := rfl
theorem c_296_1667 : mLk 296 1667 = some (.iadd, 1) := rfl
theorem c_296_1668 : mLk 296 1668 = some (.iaload, 1) := rfl
theorem c_296_1669 : mLk 296 1669 = some (.aload_n 0, 1) := rfl
theorem c_296_1670 : mLk 296 1670 = some (.iload 4, 2) := rfl
theorem c_296_1672 : mLk 296 1672 = some (.iconst 4, 1) := rfl
theorem c_296_1673 : mLk 296 1673 = some (.iadd, 1) := rfl
theorem c_296_1674 : mLk 296 1674 = some (.iaload, 1) := rfl
theorem c_296_1675 : mLk 296 1675 = some (.aload_n 0, 1) := rfl
theorem c_296_1676 : mLk 296 1676 = some (.iload 4, 2) := rfl
theorem c_296_1678 : mLk 296 1678 = some (.iconst 5, 1) := rfl
theorem c_296_1679 : mLk 296 1679 = some (.iadd, 1) := rfl
theorem c_296_1680 : mLk 296 1680 = some (.iaload, 1) := rfl
theorem c_296_1681 : mLk 296 1681 = some (.aload_n 0, 1) := rfl
theorem c_296_1682 : mLk 296 1682 = some (.iload 4, 2) := rfl
theorem c_296_1684 : mLk 296 1684 = some (.bipush 6, 2) := rfl
theorem c_296_1686 : mLk 296 1686 = some (.iadd, 1) := rfl
theorem c_296_1687 : mLk 296 1687 = some (.iaload, 1) := rfl
theorem c_296_1688 : mLk 296 1688 = some (.aload_n 3, 1) := rfl
theorem c_296_1689 : mLk 296 1689 = some (.invokestatic 252, 3) := rfl
theorem c_295_0 : mLk 295 0 = some (.aload 7, 2) := rfl
theorem c_295_2 : mLk 295 2 = some (.iconst 0, 1) := rfl
theorem c_295_3 : mLk 295 3 = some (.aload_n 0, 1) := rfl
theorem c_295_4 : mLk 295 4 = some (.iload_n 1, 1) := rfl
theorem c_295_5 : mLk 295 5 = some (.iload_n 2, 1) := rfl
theorem c_295_6 : mLk 295 6 = some (.iload_n 3, 1) := rfl
theorem c_295_7 : mLk 295 7 = some (.iload 4, 2) := rfl
theorem c_295_9 : mLk 295 9 = some (.iload 5, 2) := rfl
theorem c_295_11 : mLk 295 11 = some (.iload 6, 2) := rfl
theorem c_295_13 : mLk 295 13 = some (.invokevirtual 115, 3) := rfl
theorem c_296_1692 : mLk 296 1692 = some (.istore 5, 2) := rfl
theorem c_296_1694 : mLk 296 1694 = some (.aload_n 2, 1) := rfl
theorem c_296_1695 : mLk 296 1695 = some (.aload_n 0, 1) := rfl
theorem c_296_1696 : mLk 296 1696 = some (.iload 4, 2) := rfl
theorem c_296_1698 : mLk 296 1698 = some (.iconst 1, 1) := rfl
theorem c_296_1699 : mLk 296 1699 = some (.iadd, 1) := rfl
theorem c_296_1700 : mLk 296 1700 = some (.iaload, 1) := rfl
theorem c_296_1701 : mLk 296 1701 = some (.aload_n 0, 1) := rfl
theorem c_296_1702 : mLk 296 1702 = some (.iload 4, 2) := rfl
theorem c_296_1704 : mLk 296 1704 = some (.iconst 2, 1) := rfl
theorem c_296_1705 : mLk 296 1705 = some (.iadd, 1) := rfl
theorem c_296_1706 : mLk 296 1706 = some (.iaload, 1) := rfl
theorem c_296_1707 : mLk 296 1707 = some (.aload_n 0, 1) := rfl
theorem c_296_1708 : mLk 296 1708 = some (.iload 4, 2) := rfl
theorem c_296_1710 : mLk 296 1710 = some (.iconst 3, 1) := rfl
theorem c_296_1711 : mLk 296 1711 = some (.iadd, 1) := rfl
theorem c_296_1712 : mLk 296 1712 = some (.iaload, 1) := rfl
theorem c_296_1713 : mLk 296 1713 = some (.aload_n 0, 1) := rfl
theorem c_296_1714 : mLk 296 1714 = some (.iload 4, 2) := rfl
theorem c_296_1716 : mLk 296 1716 = some (.iconst 4, 1) := rfl
theorem c_296_1717 : mLk 296 1717 = some (.iadd, 1) := rfl
theorem c_296_1718 : mLk 296 1718 = some (.iaload, 1) := rfl
theorem c_296_1719 : mLk 296 1719 = some (.aload_n 0, 1) := rfl
theorem c_296_1720 : mLk 296 1720 = some (.iload 4, 2) := rfl
theorem c_296_1722 : mLk 296 1722 = some (.iconst 5, 1) := rfl
theorem c_296_1723 : mLk 296 1723 = some (.iadd, 1) := rfl
theorem c_296_1724 : mLk 296 1724 = some (.iaload, 1) := rfl
theorem c_296_1725 : mLk 296 1725 = some (.aload_n 0, 1) := rfl
theorem c_296_1726 : mLk 296 1726 = some (.iload 4, 2) := rfl
theorem c_296_1728 : mLk 296 1728 = some (.bipush 6, 2) := rfl
theorem c_296_1730 : mLk 296 1730 = some (.iadd, 1) := rfl
theorem c_296_1731 : mLk 296 1731 = some (.iaload, 1) := rfl
theorem c_296_1732 : mLk 296 1732 = some (.invokevirtual 255, 3) := rfl
theorem c_296_1735 : mLk 296 1735 = some (.istore 6, 2) := rfl
theorem c_296_1737 : mLk 296 1737 = some (.goto 79, 3) := rfl
theorem c_295_16 : mLk 295 16 = some (.i2l, 1) := rfl
theorem c_295_17 : mLk 295 17 = some (.lastore, 1) := rfl
theorem c_295_18 : mLk 295 18 = some (.goto 7, 3) := rfl
theorem c_295_25 : mLk 295 25 = some (.iconst 0, 1) := rfl
theorem c_295_26 : mLk 295 26 = some (.ireturn, 1) := rfl
theorem c_296_1740 : mLk 296 1740 = some (.aload_n 1, 1) := rfl
theorem c_296_1741 : mLk 296 1741 = some (.invokevirtual 256, 3) := rfl
theorem c_296_1744 : mLk 296 1744 = some (.pop, 1) := rfl
theorem c_296_1745 : mLk 296 1745 = some (.aload_n 2, 1) := rfl
theorem c_296_1746 : mLk 296 1746 = some (.invokevirtual 259, 3) := rfl
theorem c_296_1749 : mLk 296 1749 = some (.pop, 1) := rfl
theorem c_296_1750 : mLk 296 1750 = some (.goto 66, 3) := rfl
theorem c_296_1753 : mLk 296 1753 = some (.aload_n 1, 1) := rfl
theorem c_296_1754 : mLk 296 1754 = some (.invokevirtual 260, 3) := rfl
theorem c_296_1757 : mLk 296 1757 = some (.pop, 1) := rfl
theorem c_296_1758 : mLk 296 1758 = some (.aload_n 2, 1) := rfl
theorem c_296_1759 : mLk 296 1759 = some (.invokevirtual 263, 3) := rfl
theorem c_296_1762 : mLk 296 1762 = some (.pop, 1) := rfl
theorem c_296_1763 : mLk 296 1763 = some (.goto 53, 3) := rfl
theorem c_296_1766 : mLk 296 1766 = some (.aload_n 1, 1) := rfl
theorem c_296_1767 : mLk 296 1767 = some (.aload_n 0, 1) := rfl
theorem c_296_1768 : mLk 296 1768 = some (.iload 4, 2) := rfl
theorem c_296_1770 : mLk 296 1770 = some (.iconst 1, 1) := rfl
theorem c_296_1771 : mLk 296 1771 = some (.iadd, 1) := rfl
theorem c_296_1772 : mLk 296 1772 = some (.iaload, 1) := rfl
theorem c_296_1773 : mLk 296 1773 = some (.invokevirtual 264, 3) := rfl
theorem c_296_1776 : mLk 296 1776 = some (.pop, 1) := rfl
theorem c_296_1777 : mLk 296 1777 = some (.aload_n 2, 1) := rfl
theorem c_296_1778 : mLk 296 1778 = some (.aload_n 0, 1) := rfl
theorem c_296_1779 : mLk 296 1779 = some (.iload 4, 2) := rfl
theorem c_296_1781 : mLk 296 1781 = some (.iconst 1, 1) := rfl
theorem c_296_1782 : mLk 296 1782 = some (.iadd, 1) := rfl
theorem c_296_1783 : mLk 296 1783 = some (.iaload, 1) := rfl
theorem c_296_1784 : mLk 296 1784 = some (.invokevirtual 267, 3) := rfl
theorem c_296_1787 : mLk 296 1787 = some (.pop, 1) := rfl
theorem c_296_1788 : mLk 296 1788 = some (.goto 28, 3) := rfl
theorem c_296_1791 : mLk 296 1791 = some (.aload_n 1, 1) := rfl
theorem c_296_1792 : mLk 296 1792 = some (.aload_n 0, 1) := rfl
theorem c_296_1793 : mLk 296 1793 = some (.iload 4, 2) := rfl
theorem c_296_1795 : mLk 296 1795 = some (.iconst 1, 1) := rfl
theorem c_296_1796 : mLk 296 1796 = some (.iadd, 1) := rfl
theorem c_296_1797 : mLk 296 1797 = some (.iaload, 1) := rfl
theorem c_296_1798 : mLk 296 1798 = some (.invokevirtual 268, 3) := rfl
theorem c_296_1801 : mLk 296 1801 = some (.aload_n 2, 1) := rfl
theorem c_296_1802 : mLk 296 1802 = some (.aload_n 0, 1) := rfl
theorem c_296_1803 : mLk 296 1803 = some (.iload 4, 2) := rfl
theorem c_296_1805 : mLk 296 1805 = some (.iconst 1, 1) := rfl
theorem c_296_1806 : mLk 296 1806 = some (.iadd, 1) := rfl
theorem c_296_1807 : mLk 296 1807 = some (.iaload, 1) := rfl
theorem c_296_1808 : mLk 296 1808 = some (.invokevirtual 271, 3) := rfl
theorem c_296_1811 : mLk 296 1811 = some (.if_icmp .eq 5, 3) := rfl
theorem km_9_102 : a_lk (kM 9) 102 = some (0, 100) := rfl
theorem km_9_105 : a_lk (kM 9) 105 = some (0, 102) := rfl
theorem km_9_108 : a_lk (kM 9) 108 = some (0, 116) := rfl
theorem km_9_111 : a_lk (kM 9) 111 = some (0, 137) := rfl
theorem km_9_115 : a_lk (kM 9) 115 = some (0, 138) := rfl
theorem km_9_235 : a_lk (kM 9) 235 = some (0, 247) := rfl
theorem km_9_238 : a_lk (kM 9) 238 = some (0, 248) := rfl
theorem km_9_239 : a_lk (kM 9) 239 = some (0, 107) := rfl
theorem km_9_242 : a_lk (kM 9) 242 = some (0, 249) := rfl
theorem km_9_245 : a_lk (kM 9) 245 = some (0, 250) := rfl
theorem km_9_248 : a_lk (kM 9) 248 = some (0, 251) := rfl
theorem km_9_251 : a_lk (kM 9) 251 = some (0, 255) := rfl
theorem km_9_255 : a_lk (kM 9) 255 = some (0, 256) := rfl
theorem km_9_256 : a_lk (kM 9) 256 = some (0, 140) := rfl
theorem km_9_259 : a_lk (kM 9) 259 = some (0, 259) := rfl
theorem km_9_260 : a_lk (kM 9) 260 = some (0, 141) := rfl
theorem km_9_263 : a_lk (kM 9) 263 = some (0, 260) := rfl
theorem km_9_264 : a_lk (kM 9) 264 = some (0, 142) := rfl
theorem km_9_267 : a_lk (kM 9) 267 = some (0, 261) := rfl
theorem km_9_268 : a_lk (kM 9) 268 = some (0, 143) := rfl
theorem km_9_271 : a_lk (kM 9) 271 = some (0, 262) := rfl
theorem km_9_99 : a_lk (kM 9) 99 = some (0, 115) := rfl
set_option maxRecDepth 100000 in
set_option maxHeartbeats 4000000 in
theorem o_32 {xs : Nat → Int32} {L i0 d nc ns P Q : Nat} {c : ME} {Z : AR → Prop} (hi : i0 + 8 ≤ L) (hL : L ≤ 100000) (hI : Iv 0 (-1) P Q c) (hR : Rq P c) (K : ∀ (P2 Q2 : Nat) (c2 : ME) (e : Nat), e ≤ 1 → Iv 0 (-1) P2 Q2 c2 → (Rq P2 c2) → Wp (a_scr L xs) (d + 90) 296 1816 [(4, vi (i0 : Int)), (3, .ref 67), (2, .ref 41), (1, .ref 0), (0, .ref a_SC)] [] (Wd P2 Q2 P2 P2 c2) (nc + e) (ns + 6 * e) Z) : Wp (a_scr L xs) (d + 90) 296 1437 [(4, vi (i0 : Int)), (3, .ref 67), (2, .ref 41), (1, .ref 0), (0, .ref a_SC)] [] (Wd P Q P P c) nc ns Z := by
  obtain ⟨x1, hx1⟩ : ∃ z, (xs (i0 + 1)).toInt = z := ⟨_, rfl⟩
  have x1r := c_rng (xs (i0 + 1))
  rw [hx1] at x1r
  obtain ⟨x2, hx2⟩ : ∃ z, (xs (i0 + 2)).toInt = z := ⟨_, rfl⟩
  have x2r := c_rng (xs (i0 + 2))
  rw [hx2] at x2r
  obtain ⟨x3, hx3⟩ : ∃ z, (xs (i0 + 3)).toInt = z := ⟨_, rfl⟩
  have x3r := c_rng (xs (i0 + 3))
  rw [hx3] at x3r
  obtain ⟨x4, hx4⟩ : ∃ z, (xs (i0 + 4)).toInt = z := ⟨_, rfl⟩
  have x4r := c_rng (xs (i0 + 4))
  rw [hx4] at x4r
  obtain ⟨x5, hx5⟩ : ∃ z, (xs (i0 + 5)).toInt = z := ⟨_, rfl⟩
  have x5r := c_rng (xs (i0 + 5))
  rw [hx5] at x5r
  obtain ⟨x6, hx6⟩ : ∃ z, (xs (i0 + 6)).toInt = z := ⟨_, rfl⟩
  have x6r := c_rng (xs (i0 + 6))
  rw [hx6] at x6r
  obtain ⟨x7, hx7⟩ : ∃ z, (xs (i0 + 7)).toInt = z := ⟨_, rfl⟩
  have x7r := c_rng (xs (i0 + 7))
  rw [hx7] at x7r
  have hP := iv_P hI
  have hQ := iv_Q hI
  have hT := rl_t hR
  have hU := rl_u hR
  obtain ⟨n0, hn0⟩ : ∃ z, c P 0 = z := ⟨_, rfl⟩
  have hm0 : c 41 20 = n0 := (rl_nums hR).1.symm.trans hn0
  have hr0 := ir_p0_0 hI hP
  rw [hn0] at hr0
  obtain ⟨n1, hn1⟩ : ∃ z, c P 1 = z := ⟨_, rfl⟩
  have hm1 : c 41 21 = n1 := (rl_nums hR).2.1.symm.trans hn1
  have hr1 := ir_p0_1 hI hP
  rw [hn1] at hr1
  obtain ⟨n2, hn2⟩ : ∃ z, c P 2 = z := ⟨_, rfl⟩
  have hm2 : c 41 22 = n2 := (rl_nums hR).2.2.1.symm.trans hn2
  have hr2 := ir_p0_2 hI hP
  rw [hn2] at hr2
  obtain ⟨n3, hn3⟩ : ∃ z, c P 3 = z := ⟨_, rfl⟩
  have hm3 : c 41 23 = n3 := (rl_nums hR).2.2.2.symm.trans hn3
  have hr3 := ir_p0_3 hI hP
  rw [hn3] at hr3
  have hNimg := rl_img hR
  have hNwk := rl_wk hR
  have h_1 := ir_3_4 hI
  have hIw := rl_iw hR
  refine q_aload_n c_296_1437 rfl (q_aload_n c_296_1438 rfl (q_iload c_296_1439 rfl (q_iconst c_296_1441 (v_iadd (v := (i0 : Int) + 1) c_296_1442 rfl (v_scr (j := i0 + 1) c_296_1443 (by omega) (by omega) hL hx1 (q_aload_n c_296_1444 rfl (q_call c_296_1445 rfl rfl rfl ?_)))))))
  refine q_aload_n c_290_0 rfl (q_iconst c_290_1 (q_aload_n c_290_2 rfl (q_iload_n c_290_3 rfl ?_)))
  refine v_cv c_290_4 km_9_99 rfl rfl (Nat.le_of_ble_eq_true rfl) ⟨⟨rfl, rfl⟩, Nat.le_of_ble_eq_true rfl, rfl⟩ (Nat.le_of_ble_eq_true rfl) (Nat.le_of_ble_eq_true rfl) (s_115 (a1 := x1) hI (show (-2147483648) ≤ x1 ∧ x1 ≤ 2147483647 from ⟨by omega, by omega⟩) (fun c_2 hI_3 hF_4 => ?_) (fun c_5 y_8 hI_6 hF_7 hy_8 => ?_))
  · skip
    refine bk_thr (z := Int32.ofInt 1) rfl ⟨_, _, rfl⟩ rfl (bk_inl (q_istore c_296_1448 (Nat.le_of_ble_eq_true rfl) (q_aload_n c_296_1450 rfl (q_aload_n c_296_1451 rfl (q_iload c_296_1452 rfl (q_iconst c_296_1454 (v_iadd (v := (i0 : Int) + 1) c_296_1455 rfl ?_)))))))
    refine v_scr (j := i0 + 1) c_296_1456 (by omega) (by omega) hL hx1 (v_cv c_296_1457 km_9_235 rfl rfl (Nat.le_of_ble_eq_true rfl) ⟨⟨rfl, rfl⟩, Nat.le_of_ble_eq_true rfl, rfl⟩ (Nat.le_of_ble_eq_true rfl) (Nat.le_of_ble_eq_true rfl) (s_247 (a1 := x1) hI_3 (show (-2147483648) ≤ x1 ∧ x1 ≤ 2147483647 from ⟨by omega, by omega⟩) (fun c_9 y_12 hI_10 hF_11 hy_12 => (bk_inl (q_istore c_296_1460 (Nat.le_of_ble_eq_true rfl) (q_goto (t := 1816) c_296_1462 rfl (Wp_ls [(4, vi (i0 : Int)), (3, .ref 67), (2, .ref 41), (1, .ref 0), (0, .ref a_SC)] (lsub_cons rfl (lsub_cons rfl (lsub_cons rfl (lsub_cons rfl (lsub_cons rfl lsub_nil))))) ?_)))))))
    have h_13 := ir_1_3 hI
    have kn_14 : Hid (c_2 1 3 = c 1 3) := hF_4 1 3 (fun h => absurd h.1 (nn rfl))
    have kn_15 : Hid (c_9 1 3 = c 1 3) := (hF_11 1 3 qn_39cd18c3e).trans (hid kn_14)
    have h_16 : c_9 1 3 = c 1 3 := (hid kn_15)
    have h_17 := ir_41_2 hI
    have kn_18 : Hid (c_2 41 2 = c 41 2) := hF_4 41 2 (fun h => absurd h.1 (nn rfl))
    have kn_19 : Hid (c_9 41 2 = c 41 2) := (hF_11 41 2 qn_53bdb2099).trans (hid kn_18)
    have h_20 : c_9 41 2 = c 41 2 := (hid kn_19)
    have kn_21 : Hid (c_2 P 0 = n0) := (hF_4 P 0 (fun h => absurd h.1 (np0 hP rfl))).trans (hn0)
    have kn_22 : Hid (c_9 P 0 = n0) := (hF_11 P 0 (qn_857752076 hP)).trans (hid kn_21)
    have h_23 : c_9 P 0 = n0 := (hid kn_22)
    have kn_24 : Hid (c_2 41 20 = n0) := (hF_4 41 20 (fun h => absurd h.1 (nn rfl))).trans (hm0)
    have kn_25 : Hid (c_9 41 20 = n0) := (hF_11 41 20 qn_110b29ed6).trans (hid kn_24)
    have h_26 : c_9 41 20 = n0 := (hid kn_25)
    have kn_27 : Hid (c_2 P 1 = n1) := (hF_4 P 1 (fun h => absurd h.1 (np0 hP rfl))).trans (hn1)
    have kn_28 : Hid (c_9 P 1 = n1) := (hF_11 P 1 (qn_857752076 hP)).trans (hid kn_27)
    have h_29 : c_9 P 1 = n1 := (hid kn_28)
    have kn_30 : Hid (c_2 41 21 = n1) := (hF_4 41 21 (fun h => absurd h.1 (nn rfl))).trans (hm1)
    have kn_31 : Hid (c_9 41 21 = n1) := (hF_11 41 21 qn_561064c41).trans (hid kn_30)
    have h_32 : c_9 41 21 = n1 := (hid kn_31)
    have kn_33 : Hid (c_2 P 2 = n2) := (hF_4 P 2 (fun h => absurd h.1 (np0 hP rfl))).trans (hn2)
    have kn_34 : Hid (c_9 P 2 = n2) := (hF_11 P 2 (qn_857752076 hP)).trans (hid kn_33)
    have h_35 : c_9 P 2 = n2 := (hid kn_34)
    have kn_36 : Hid (c_2 41 22 = n2) := (hF_4 41 22 (fun h => absurd h.1 (nn rfl))).trans (hm2)
    have kn_37 : Hid (c_9 41 22 = n2) := (hF_11 41 22 qn_1a460b46b).trans (hid kn_36)
    have h_38 : c_9 41 22 = n2 := (hid kn_37)
    have kn_39 : Hid (c_2 P 3 = n3) := (hF_4 P 3 (fun h => absurd h.1 (np0 hP rfl))).trans (hn3)
    have kn_40 : Hid (c_9 P 3 = n3) := (hF_11 P 3 (qn_857752076 hP)).trans (hid kn_39)
    have h_41 : c_9 P 3 = n3 := (hid kn_40)
    have kn_42 : Hid (c_2 41 23 = n3) := (hF_4 41 23 (fun h => absurd h.1 (nn rfl))).trans (hm3)
    have kn_43 : Hid (c_9 41 23 = n3) := (hF_11 41 23 qn_b79f282cd).trans (hid kn_42)
    have h_44 : c_9 41 23 = n3 := (hid kn_43)
    have kn_45 : Hid (c_2 3 4 = c 3 4) := hF_4 3 4 (fun h => absurd h.1 (nn rfl))
    have kn_46 : Hid (c_9 3 4 = c 3 4) := (hF_11 3 4 qn_bf2303cc8).trans (hid kn_45)
    have h_47 : c_9 3 4 = c 3 4 := (hid kn_46)
    have h_48 := ir_41_52 hI
    have kn_49 : Hid (c_2 41 52 = c 41 52) := hF_4 41 52 (fun h => absurd h.1 (nn rfl))
    have kn_50 : Hid (c_9 41 52 = c 41 52) := (hF_11 41 52 qn_90835161a).trans (hid kn_49)
    have h_51 : c_9 41 52 = c 41 52 := (hid kn_50)
    have h_52 := ir_3_3 hI
    have kn_53 : Hid (c_2 3 3 = c 3 3) := hF_4 3 3 (fun h => absurd h.1 (nn rfl))
    have kn_54 : Hid (c_9 3 3 = c 3 3) := (hF_11 3 3 qn_bf2303cc8).trans (hid kn_53)
    have h_55 : c_9 3 3 = c 3 3 := (hid kn_54)
    have h_56 := ir_41_35 hI
    have kn_57 : Hid (c_2 41 35 = c 41 35) := hF_4 41 35 (fun h => absurd h.1 (nn rfl))
    have kn_58 : Hid (c_9 41 35 = c 41 35) := (hF_11 41 35 qn_732a91ea5).trans (hid kn_57)
    have h_59 : c_9 41 35 = c 41 35 := (hid kn_58)
    have h_60 : c_9 3 4 = c 3 4 := (hid kn_46)
    exact K P Q c_9 1 (by decide) hI_10 ⟨by omega, ub_fr hU (fun j => (hF_11 2 j qn_2ad67e194).trans (hF_4 2 j (fun h => absurd h.1 (nn rfl)))) (fun j => (hF_11 43 j qn_1520ff5e3).trans (hF_4 43 j (fun h => absurd h.1 (nn rfl)))), ⟨by omega, by omega, by omega, by omega⟩, by omega, by omega, iw_fr2 hIw (by omega) (fun j => (hF_11 6 j qn_e1050858a).trans (hF_4 6 j (fun h => absurd h.1 (nn rfl)))) (fun j => (hF_11 66 j qn_5616dd9ce).trans (hF_4 66 j (fun h => absurd h.1 (nn rfl))))⟩
  refine bk_inl (v_i2l c_290_7 (by omega) (v_ls c_290_8 rfl (by decide) (by decide) (by decide) (q_goto (t := 15) c_290_9 rfl (q_iconst c_290_15 (q_iret c_290_16 rfl (bk_inl (q_istore c_296_1448 (Nat.le_of_ble_eq_true rfl) ?_)))))))
  refine q_aload_n c_296_1450 rfl (q_aload_n c_296_1451 rfl (q_iload c_296_1452 rfl (q_iconst c_296_1454 (v_iadd (v := (i0 : Int) + 1) c_296_1455 rfl (v_scr (j := i0 + 1) c_296_1456 (by omega) (by omega) hL hx1 ?_)))))
  have hI_61 := iw_lx (a := 67) (j := 0) (v := y_8) hI_6 (by omega)
  refine v_cv c_296_1457 km_9_235 rfl rfl (Nat.le_of_ble_eq_true rfl) ⟨⟨rfl, rfl⟩, Nat.le_of_ble_eq_true rfl, rfl⟩ (Nat.le_of_ble_eq_true rfl) (Nat.le_of_ble_eq_true rfl) (s_247 (a1 := x1) hI_61 (show (-2147483648) ≤ x1 ∧ x1 ≤ 2147483647 from ⟨by omega, by omega⟩) (fun c_62 y_65 hI_63 hF_64 hy_65 => (bk_inl (q_istore c_296_1460 (Nat.le_of_ble_eq_true rfl) (q_goto (t := 1816) c_296_1462 rfl (Wp_ls [(4, vi (i0 : Int)), (3, .ref 67), (2, .ref 41), (1, .ref 0), (0, .ref a_SC)] (lsub_cons rfl (lsub_cons rfl (lsub_cons rfl (lsub_cons rfl (lsub_cons rfl lsub_nil))))) ?_))))))
  have h_66 := ir_1_3 hI
  have kn_67 : Hid (c_5 1 3 = c 1 3) := hF_7 1 3 (fun h => absurd h.1 (nn rfl))
  have kn_68 : Hid (c_62 1 3 = c 1 3) := (hF_64 1 3 qn_39cd18c3e).trans ((up_c (nn rfl)).trans (hid kn_67))
  have h_69 : c_62 1 3 = c 1 3 := (hid kn_68)
  have h_70 := ir_41_2 hI
  have kn_71 : Hid (c_5 41 2 = c 41 2) := hF_7 41 2 (fun h => absurd h.1 (nn rfl))
  have kn_72 : Hid (c_62 41 2 = c 41 2) := (hF_64 41 2 qn_53bdb2099).trans ((up_c (nn rfl)).trans (hid kn_71))
  have h_73 : c_62 41 2 = c 41 2 := (hid kn_72)
  have kn_74 : Hid (c_5 P 0 = n0) := (hF_7 P 0 (fun h => absurd h.1 (np0 hP rfl))).trans (hn0)
  have kn_75 : Hid (c_62 P 0 = n0) := (hF_64 P 0 (qn_857752076 hP)).trans ((up_c (np0 hP rfl)).trans (hid kn_74))
  have h_76 : c_62 P 0 = n0 := (hid kn_75)
  have kn_77 : Hid (c_5 41 20 = n0) := (hF_7 41 20 (fun h => absurd h.1 (nn rfl))).trans (hm0)
  have kn_78 : Hid (c_62 41 20 = n0) := (hF_64 41 20 qn_110b29ed6).trans ((up_c (nn rfl)).trans (hid kn_77))
  have h_79 : c_62 41 20 = n0 := (hid kn_78)
  have kn_80 : Hid (c_5 P 1 = n1) := (hF_7 P 1 (fun h => absurd h.1 (np0 hP rfl))).trans (hn1)
  have kn_81 : Hid (c_62 P 1 = n1) := (hF_64 P 1 (qn_857752076 hP)).trans ((up_c (np0 hP rfl)).trans (hid kn_80))
  have h_82 : c_62 P 1 = n1 := (hid kn_81)
  have kn_83 : Hid (c_5 41 21 = n1) := (hF_7 41 21 (fun h => absurd h.1 (nn rfl))).trans (hm1)
  have kn_84 : Hid (c_62 41 21 = n1) := (hF_64 41 21 qn_561064c41).trans ((up_c (nn rfl)).trans (hid kn_83))
  have h_85 : c_62 41 21 = n1 := (hid kn_84)
  have kn_86 : Hid (c_5 P 2 = n2) := (hF_7 P 2 (fun h => absurd h.1 (np0 hP rfl))).trans (hn2)
  have kn_87 : Hid (c_62 P 2 = n2) := (hF_64 P 2 (qn_857752076 hP)).trans ((up_c (np0 hP rfl)).trans (hid kn_86))
  have h_88 : c_62 P 2 = n2 := (hid kn_87)
  have kn_89 : Hid (c_5 41 22 = n2) := (hF_7 41 22 (fun h => absurd h.1 (nn rfl))).trans (hm2)
  have kn_90 : Hid (c_62 41 22 = n2) := (hF_64 41 22 qn_1a460b46b).trans ((up_c (nn rfl)).trans (hid kn_89))
  have h_91 : c_62 41 22 = n2 := (hid kn_90)
  have kn_92 : Hid (c_5 P 3 = n3) := (hF_7 P 3 (fun h => absurd h.1 (np0 hP rfl))).trans (hn3)
  have kn_93 : Hid (c_62 P 3 = n3) := (hF_64 P 3 (qn_857752076 hP)).trans ((up_c (np0 hP rfl)).trans (hid kn_92))
  have h_94 : c_62 P 3 = n3 := (hid kn_93)
  have kn_95 : Hid (c_5 41 23 = n3) := (hF_7 41 23 (fun h => absurd h.1 (nn rfl))).trans (hm3)
  have kn_96 : Hid (c_62 41 23 = n3) := (hF_64 41 23 qn_b79f282cd).trans ((up_c (nn rfl)).trans (hid kn_95))
  have h_97 : c_62 41 23 = n3 := (hid kn_96)
  have kn_98 : Hid (c_5 3 4 = c 3 4) := hF_7 3 4 (fun h => absurd h.1 (nn rfl))
  have kn_99 : Hid (c_62 3 4 = c 3 4) := (hF_64 3 4 qn_bf2303cc8).trans ((up_c (nn rfl)).trans (hid kn_98))
  have h_100 : c_62 3 4 = c 3 4 := (hid kn_99)
  have h_101 := ir_41_52 hI
  have kn_102 : Hid (c_5 41 52 = c 41 52) := hF_7 41 52 (fun h => absurd h.1 (nn rfl))
  have kn_103 : Hid (c_62 41 52 = c 41 52) := (hF_64 41 52 qn_90835161a).trans ((up_c (nn rfl)).trans (hid kn_102))
  have h_104 : c_62 41 52 = c 41 52 := (hid kn_103)
  have h_105 := ir_3_3 hI
  have kn_106 : Hid (c_5 3 3 = c 3 3) := hF_7 3 3 (fun h => absurd h.1 (nn rfl))
  have kn_107 : Hid (c_62 3 3 = c 3 3) := (hF_64 3 3 qn_bf2303cc8).trans ((up_c (nn rfl)).trans (hid kn_106))
  have h_108 : c_62 3 3 = c 3 3 := (hid kn_107)
  have h_109 := ir_41_35 hI
  have kn_110 : Hid (c_5 41 35 = c 41 35) := hF_7 41 35 (fun h => absurd h.1 (nn rfl))
  have kn_111 : Hid (c_62 41 35 = c 41 35) := (hF_64 41 35 qn_732a91ea5).trans ((up_c (nn rfl)).trans (hid kn_110))
  have h_112 : c_62 41 35 = c 41 35 := (hid kn_111)
  have h_113 : c_62 3 4 = c 3 4 := (hid kn_99)
  exact K P Q c_62 0 (by decide) hI_63 ⟨by omega, ub_fr hU (fun j => (hF_64 2 j qn_2ad67e194).trans ((up_c (nn rfl)).trans (hF_7 2 j (fun h => absurd h.1 (nn rfl))))) (fun j => (hF_64 43 j qn_1520ff5e3).trans ((up_c (nn rfl)).trans (hF_7 43 j (fun h => absurd h.1 (nn rfl))))), ⟨by omega, by omega, by omega, by omega⟩, by omega, by omega, iw_fr2 hIw (by omega) (fun j => (hF_64 6 j qn_e1050858a).trans ((up_c (nn rfl)).trans (hF_7 6 j (fun h => absurd h.1 (nn rfl))))) (fun j => (hF_64 66 j qn_5616dd9ce).trans ((up_c (nn rfl)).trans (hF_7 66 j (fun h => absurd h.1 (nn rfl)))))⟩

set_option maxRecDepth 100000 in
set_option maxHeartbeats 4000000 in
theorem o_33 {xs : Nat → Int32} {L i0 d nc ns P Q : Nat} {c : ME} {Z : AR → Prop} (hi : i0 + 8 ≤ L) (hL : L ≤ 100000) (hI : Iv 0 (-1) P Q c) (hR : Rq P c) (K : ∀ (P2 Q2 : Nat) (c2 : ME) (e : Nat), e ≤ 1 → Iv 0 (-1) P2 Q2 c2 → (Rq P2 c2) → Wp (a_scr L xs) (d + 90) 296 1816 [(4, vi (i0 : Int)), (3, .ref 67), (2, .ref 41), (1, .ref 0), (0, .ref a_SC)] [] (Wd P2 Q2 P2 P2 c2) (nc + e) (ns + 6 * e) Z) : Wp (a_scr L xs) (d + 90) 296 1465 [(4, vi (i0 : Int)), (3, .ref 67), (2, .ref 41), (1, .ref 0), (0, .ref a_SC)] [] (Wd P Q P P c) nc ns Z := by
  obtain ⟨x1, hx1⟩ : ∃ z, (xs (i0 + 1)).toInt = z := ⟨_, rfl⟩
  have x1r := c_rng (xs (i0 + 1))
  rw [hx1] at x1r
  obtain ⟨x2, hx2⟩ : ∃ z, (xs (i0 + 2)).toInt = z := ⟨_, rfl⟩
  have x2r := c_rng (xs (i0 + 2))
  rw [hx2] at x2r
  obtain ⟨x3, hx3⟩ : ∃ z, (xs (i0 + 3)).toInt = z := ⟨_, rfl⟩
  have x3r := c_rng (xs (i0 + 3))
  rw [hx3] at x3r
  obtain ⟨x4, hx4⟩ : ∃ z, (xs (i0 + 4)).toInt = z := ⟨_, rfl⟩
  have x4r := c_rng (xs (i0 + 4))
  rw [hx4] at x4r
  obtain ⟨x5, hx5⟩ : ∃ z, (xs (i0 + 5)).toInt = z := ⟨_, rfl⟩
  have x5r := c_rng (xs (i0 + 5))
  rw [hx5] at x5r
  obtain ⟨x6, hx6⟩ : ∃ z, (xs (i0 + 6)).toInt = z := ⟨_, rfl⟩
  have x6r := c_rng (xs (i0 + 6))
  rw [hx6] at x6r
  obtain ⟨x7, hx7⟩ : ∃ z, (xs (i0 + 7)).toInt = z := ⟨_, rfl⟩
  have x7r := c_rng (xs (i0 + 7))
  rw [hx7] at x7r
  have hP := iv_P hI
  have hQ := iv_Q hI
  have hT := rl_t hR
  have hU := rl_u hR
  obtain ⟨n0, hn0⟩ : ∃ z, c P 0 = z := ⟨_, rfl⟩
  have hm0 : c 41 20 = n0 := (rl_nums hR).1.symm.trans hn0
  have hr0 := ir_p0_0 hI hP
  rw [hn0] at hr0
  obtain ⟨n1, hn1⟩ : ∃ z, c P 1 = z := ⟨_, rfl⟩
  have hm1 : c 41 21 = n1 := (rl_nums hR).2.1.symm.trans hn1
  have hr1 := ir_p0_1 hI hP
  rw [hn1] at hr1
  obtain ⟨n2, hn2⟩ : ∃ z, c P 2 = z := ⟨_, rfl⟩
  have hm2 : c 41 22 = n2 := (rl_nums hR).2.2.1.symm.trans hn2
  have hr2 := ir_p0_2 hI hP
  rw [hn2] at hr2
  obtain ⟨n3, hn3⟩ : ∃ z, c P 3 = z := ⟨_, rfl⟩
  have hm3 : c 41 23 = n3 := (rl_nums hR).2.2.2.symm.trans hn3
  have hr3 := ir_p0_3 hI hP
  rw [hn3] at hr3
  have hNimg := rl_img hR
  have hNwk := rl_wk hR
  have h_1 := ir_3_4 hI
  have hIw := rl_iw hR
  refine q_aload_n c_296_1465 rfl (q_aload_n c_296_1466 rfl (q_iload c_296_1467 rfl (q_iconst c_296_1469 (v_iadd (v := (i0 : Int) + 1) c_296_1470 rfl (v_scr (j := i0 + 1) c_296_1471 (by omega) (by omega) hL hx1 (q_aload_n c_296_1472 rfl (q_iload c_296_1473 rfl ?_)))))))
  refine q_iconst c_296_1475 (v_iadd (v := (i0 : Int) + 2) c_296_1476 rfl (v_scr (j := i0 + 2) c_296_1477 (by omega) (by omega) hL hx2 (q_aload_n c_296_1478 rfl (q_call c_296_1479 rfl rfl rfl (q_aload_n c_291_0 rfl (q_iconst c_291_1 (q_aload_n c_291_2 rfl ?_)))))))
  refine q_iload_n c_291_3 rfl (q_iload_n c_291_4 rfl ?_)
  refine v_cv c_291_5 km_9_102 rfl rfl (Nat.le_of_ble_eq_true rfl) ⟨⟨rfl, rfl⟩, Nat.le_of_ble_eq_true rfl, rfl⟩ (Nat.le_of_ble_eq_true rfl) (Nat.le_of_ble_eq_true rfl) (s_100 (a1 := x1) (a2 := x2) hI (show (-2147483648) ≤ x1 ∧ x1 ≤ 2147483647 from ⟨by omega, by omega⟩) (show (-2147483648) ≤ x2 ∧ x2 ≤ 2147483647 from ⟨by omega, by omega⟩) (fun c_2 hI_3 hF_4 => ?_) (fun c_5 y_8 hI_6 hF_7 hy_8 => ?_))
  · skip
    refine bk_thr (z := Int32.ofInt 1) rfl ⟨_, _, rfl⟩ rfl (bk_inl (q_istore c_296_1482 (Nat.le_of_ble_eq_true rfl) (q_aload_n c_296_1484 rfl (q_aload_n c_296_1485 rfl (q_iload c_296_1486 rfl (q_iconst c_296_1488 (v_iadd (v := (i0 : Int) + 1) c_296_1489 rfl ?_)))))))
    refine v_scr (j := i0 + 1) c_296_1490 (by omega) (by omega) hL hx1 (q_aload_n c_296_1491 rfl (q_iload c_296_1492 rfl (q_iconst c_296_1494 (v_iadd (v := (i0 : Int) + 2) c_296_1495 rfl (v_scr (j := i0 + 2) c_296_1496 (by omega) (by omega) hL hx2 (v_cv c_296_1497 km_9_238 rfl rfl (Nat.le_of_ble_eq_true rfl) ⟨⟨rfl, rfl⟩, Nat.le_of_ble_eq_true rfl, rfl⟩ (Nat.le_of_ble_eq_true rfl) (Nat.le_of_ble_eq_true rfl) (s_248 (a1 := x1) (a2 := x2) hI_3 (show (-2147483648) ≤ x1 ∧ x1 ≤ 2147483647 from ⟨by omega, by omega⟩) (show (-2147483648) ≤ x2 ∧ x2 ≤ 2147483647 from ⟨by omega, by omega⟩) (fun c_9 y_12 hI_10 hF_11 hy_12 => (bk_inl ?_)))))))))
    refine q_istore c_296_1500 (Nat.le_of_ble_eq_true rfl) (q_goto (t := 1816) c_296_1502 rfl (Wp_ls [(4, vi (i0 : Int)), (3, .ref 67), (2, .ref 41), (1, .ref 0), (0, .ref a_SC)] (lsub_cons rfl (lsub_cons rfl (lsub_cons rfl (lsub_cons rfl (lsub_cons rfl lsub_nil))))) ?_))
    have h_13 := ir_1_3 hI
    have kn_14 : Hid (c_2 1 3 = c 1 3) := hF_4 1 3 (fun h => absurd h.1 (nn rfl))
    have kn_15 : Hid (c_9 1 3 = c 1 3) := (hF_11 1 3 (fun q => q.elim (fun h => absurd h.1 (nn rfl)) (fun h => absurd h (nn rfl)))).trans (hid kn_14)
    have h_16 : c_9 1 3 = c 1 3 := (hid kn_15)
    have h_17 := ir_41_2 hI
    have kn_18 : Hid (c_2 41 2 = c 41 2) := hF_4 41 2 (fun h => absurd h.1 (nn rfl))
    have kn_19 : Hid (c_9 41 2 = c 41 2) := (hF_11 41 2 (fun q => q.elim (fun h => absurd h.2 (ni rfl)) (fun h => absurd h (nn rfl)))).trans (hid kn_18)
    have h_20 : c_9 41 2 = c 41 2 := (hid kn_19)
    have kn_21 : Hid (c_2 P 0 = n0) := (hF_4 P 0 (fun h => absurd h.1 (np0 hP rfl))).trans (hn0)
    have kn_22 : Hid (c_9 P 0 = n0) := (hF_11 P 0 (qn_753ab1e1a hP)).trans (hid kn_21)
    have h_23 : c_9 P 0 = n0 := (hid kn_22)
    have kn_24 : Hid (c_2 41 20 = n0) := (hF_4 41 20 (fun h => absurd h.1 (nn rfl))).trans (hm0)
    have kn_25 : Hid (c_9 41 20 = n0) := (hF_11 41 20 (fun q => q.elim (fun h => absurd h.2 (ni rfl)) (fun h => absurd h (nn rfl)))).trans (hid kn_24)
    have h_26 : c_9 41 20 = n0 := (hid kn_25)
    have kn_27 : Hid (c_2 P 1 = n1) := (hF_4 P 1 (fun h => absurd h.1 (np0 hP rfl))).trans (hn1)
    have kn_28 : Hid (c_9 P 1 = n1) := (hF_11 P 1 (qn_753ab1e1a hP)).trans (hid kn_27)
    have h_29 : c_9 P 1 = n1 := (hid kn_28)
    have kn_30 : Hid (c_2 41 21 = n1) := (hF_4 41 21 (fun h => absurd h.1 (nn rfl))).trans (hm1)
    have kn_31 : Hid (c_9 41 21 = n1) := (hF_11 41 21 (fun q => q.elim (fun h => absurd h.2 (ni rfl)) (fun h => absurd h (nn rfl)))).trans (hid kn_30)
    have h_32 : c_9 41 21 = n1 := (hid kn_31)
    have kn_33 : Hid (c_2 P 2 = n2) := (hF_4 P 2 (fun h => absurd h.1 (np0 hP rfl))).trans (hn2)
    have kn_34 : Hid (c_9 P 2 = n2) := (hF_11 P 2 (qn_753ab1e1a hP)).trans (hid kn_33)
    have h_35 : c_9 P 2 = n2 := (hid kn_34)
    have kn_36 : Hid (c_2 41 22 = n2) := (hF_4 41 22 (fun h => absurd h.1 (nn rfl))).trans (hm2)
    have kn_37 : Hid (c_9 41 22 = n2) := (hF_11 41 22 (fun q => q.elim (fun h => absurd h.2 (ni rfl)) (fun h => absurd h (nn rfl)))).trans (hid kn_36)
    have h_38 : c_9 41 22 = n2 := (hid kn_37)
    have kn_39 : Hid (c_2 P 3 = n3) := (hF_4 P 3 (fun h => absurd h.1 (np0 hP rfl))).trans (hn3)
    have kn_40 : Hid (c_9 P 3 = n3) := (hF_11 P 3 (qn_753ab1e1a hP)).trans (hid kn_39)
    have h_41 : c_9 P 3 = n3 := (hid kn_40)
    have kn_42 : Hid (c_2 41 23 = n3) := (hF_4 41 23 (fun h => absurd h.1 (nn rfl))).trans (hm3)
    have kn_43 : Hid (c_9 41 23 = n3) := (hF_11 41 23 (fun q => q.elim (fun h => absurd h.2 (ni rfl)) (fun h => absurd h (nn rfl)))).trans (hid kn_42)
    have h_44 : c_9 41 23 = n3 := (hid kn_43)
    have kn_45 : Hid (c_2 3 4 = c 3 4) := hF_4 3 4 (fun h => absurd h.1 (nn rfl))
    have kn_46 : Hid (c_9 3 4 = c 3 4) := (hF_11 3 4 (fun q => q.elim (fun h => absurd h.1 (nn rfl)) (fun h => absurd h (nn rfl)))).trans (hid kn_45)
    have h_47 : c_9 3 4 = c 3 4 := (hid kn_46)
    have h_48 := ir_41_52 hI
    have kn_49 : Hid (c_2 41 52 = c 41 52) := hF_4 41 52 (fun h => absurd h.1 (nn rfl))
    have kn_50 : Hid (c_9 41 52 = c 41 52) := (hF_11 41 52 (fun q => q.elim (fun h => absurd h.2 (ni rfl)) (fun h => absurd h (nn rfl)))).trans (hid kn_49)
    have h_51 : c_9 41 52 = c 41 52 := (hid kn_50)
    have h_52 := ir_3_3 hI
    have kn_53 : Hid (c_2 3 3 = c 3 3) := hF_4 3 3 (fun h => absurd h.1 (nn rfl))
    have kn_54 : Hid (c_9 3 3 = c 3 3) := (hF_11 3 3 (fun q => q.elim (fun h => absurd h.1 (nn rfl)) (fun h => absurd h (nn rfl)))).trans (hid kn_53)
    have h_55 : c_9 3 3 = c 3 3 := (hid kn_54)
    have h_56 := ir_41_35 hI
    have kn_57 : Hid (c_2 41 35 = c 41 35) := hF_4 41 35 (fun h => absurd h.1 (nn rfl))
    have kn_58 : Hid (c_9 41 35 = c 41 35) := (hF_11 41 35 (fun q => q.elim (fun h => absurd h.2 (ni rfl)) (fun h => absurd h (nn rfl)))).trans (hid kn_57)
    have h_59 : c_9 41 35 = c 41 35 := (hid kn_58)
    have h_60 : c_9 3 4 = c 3 4 := (hid kn_46)
    exact K P Q c_9 1 (by decide) hI_10 ⟨by omega, ub_fr hU (fun j => (hF_11 2 j (fun q => q.elim (fun h => absurd h.1 (nn rfl)) (fun h => absurd h (nn rfl)))).trans (hF_4 2 j (fun h => absurd h.1 (nn rfl)))) (fun j => (hF_11 43 j (fun q => q.elim (fun h => absurd h.1 (nn rfl)) (fun h => absurd h (nn rfl)))).trans (hF_4 43 j (fun h => absurd h.1 (nn rfl)))), ⟨by omega, by omega, by omega, by omega⟩, by omega, by omega, iw_fr2 hIw (by omega) (fun j => (hF_11 6 j (fun q => q.elim (fun h => absurd h.1 (nn rfl)) (fun h => absurd h (nn rfl)))).trans (hF_4 6 j (fun h => absurd h.1 (nn rfl)))) (fun j => (hF_11 66 j (fun q => q.elim (fun h => absurd h.1 (nn rfl)) (fun h => absurd h (nn rfl)))).trans (hF_4 66 j (fun h => absurd h.1 (nn rfl))))⟩
  refine bk_inl (v_i2l c_291_8 (by omega) (v_ls c_291_9 rfl (by decide) (by decide) (by decide) (q_goto (t := 17) c_291_10 rfl (q_iconst c_291_17 (q_iret c_291_18 rfl (bk_inl (q_istore c_296_1482 (Nat.le_of_ble_eq_true rfl) ?_)))))))
  refine q_aload_n c_296_1484 rfl (q_aload_n c_296_1485 rfl (q_iload c_296_1486 rfl (q_iconst c_296_1488 (v_iadd (v := (i0 : Int) + 1) c_296_1489 rfl (v_scr (j := i0 + 1) c_296_1490 (by omega) (by omega) hL hx1 (q_aload_n c_296_1491 rfl (q_iload c_296_1492 rfl ?_)))))))
  refine q_iconst c_296_1494 (v_iadd (v := (i0 : Int) + 2) c_296_1495 rfl (v_scr (j := i0 + 2) c_296_1496 (by omega) (by omega) hL hx2 ?_))
  have hI_61 := iw_lx (a := 67) (j := 0) (v := y_8) hI_6 (by omega)
  refine v_cv c_296_1497 km_9_238 rfl rfl (Nat.le_of_ble_eq_true rfl) ⟨⟨rfl, rfl⟩, Nat.le_of_ble_eq_true rfl, rfl⟩ (Nat.le_of_ble_eq_true rfl) (Nat.le_of_ble_eq_true rfl) (s_248 (a1 := x1) (a2 := x2) hI_61 (show (-2147483648) ≤ x1 ∧ x1 ≤ 2147483647 from ⟨by omega, by omega⟩) (show (-2147483648) ≤ x2 ∧ x2 ≤ 2147483647 from ⟨by omega, by omega⟩) (fun c_62 y_65 hI_63 hF_64 hy_65 => (bk_inl (q_istore c_296_1500 (Nat.le_of_ble_eq_true rfl) (q_goto (t := 1816) c_296_1502 rfl (Wp_ls [(4, vi (i0 : Int)), (3, .ref 67), (2, .ref 41), (1, .ref 0), (0, .ref a_SC)] (lsub_cons rfl (lsub_cons rfl (lsub_cons rfl (lsub_cons rfl (lsub_cons rfl lsub_nil))))) ?_))))))
  have h_66 := ir_1_3 hI
  have kn_67 : Hid (c_5 1 3 = c 1 3) := hF_7 1 3 (fun h => absurd h.1 (nn rfl))
  have kn_68 : Hid (c_62 1 3 = c 1 3) := (hF_64 1 3 (fun q => q.elim (fun h => absurd h.1 (nn rfl)) (fun h => absurd h (nn rfl)))).trans ((up_c (nn rfl)).trans (hid kn_67))
  have h_69 : c_62 1 3 = c 1 3 := (hid kn_68)
  have h_70 := ir_41_2 hI
  have kn_71 : Hid (c_5 41 2 = c 41 2) := hF_7 41 2 (fun h => absurd h.1 (nn rfl))
  have kn_72 : Hid (c_62 41 2 = c 41 2) := (hF_64 41 2 (fun q => q.elim (fun h => absurd h.2 (ni rfl)) (fun h => absurd h (nn rfl)))).trans ((up_c (nn rfl)).trans (hid kn_71))
  have h_73 : c_62 41 2 = c 41 2 := (hid kn_72)
  have kn_74 : Hid (c_5 P 0 = n0) := (hF_7 P 0 (fun h => absurd h.1 (np0 hP rfl))).trans (hn0)
  have kn_75 : Hid (c_62 P 0 = n0) := (hF_64 P 0 (qn_753ab1e1a hP)).trans ((up_c (np0 hP rfl)).trans (hid kn_74))
  have h_76 : c_62 P 0 = n0 := (hid kn_75)
  have kn_77 : Hid (c_5 41 20 = n0) := (hF_7 41 20 (fun h => absurd h.1 (nn rfl))).trans (hm0)
  have kn_78 : Hid (c_62 41 20 = n0) := (hF_64 41 20 (fun q => q.elim (fun h => absurd h.2 (ni rfl)) (fun h => absurd h (nn rfl)))).trans ((up_c (nn rfl)).trans (hid kn_77))
  have h_79 : c_62 41 20 = n0 := (hid kn_78)
  have kn_80 : Hid (c_5 P 1 = n1) := (hF_7 P 1 (fun h => absurd h.1 (np0 hP rfl))).trans (hn1)
  have kn_81 : Hid (c_62 P 1 = n1) := (hF_64 P 1 (qn_753ab1e1a hP)).trans ((up_c (np0 hP rfl)).trans (hid kn_80))
  have h_82 : c_62 P 1 = n1 := (hid kn_81)
  have kn_83 : Hid (c_5 41 21 = n1) := (hF_7 41 21 (fun h => absurd h.1 (nn rfl))).trans (hm1)
  have kn_84 : Hid (c_62 41 21 = n1) := (hF_64 41 21 (fun q => q.elim (fun h => absurd h.2 (ni rfl)) (fun h => absurd h (nn rfl)))).trans ((up_c (nn rfl)).trans (hid kn_83))
  have h_85 : c_62 41 21 = n1 := (hid kn_84)
  have kn_86 : Hid (c_5 P 2 = n2) := (hF_7 P 2 (fun h => absurd h.1 (np0 hP rfl))).trans (hn2)
  have kn_87 : Hid (c_62 P 2 = n2) := (hF_64 P 2 (qn_753ab1e1a hP)).trans ((up_c (np0 hP rfl)).trans (hid kn_86))
  have h_88 : c_62 P 2 = n2 := (hid kn_87)
  have kn_89 : Hid (c_5 41 22 = n2) := (hF_7 41 22 (fun h => absurd h.1 (nn rfl))).trans (hm2)
  have kn_90 : Hid (c_62 41 22 = n2) := (hF_64 41 22 (fun q => q.elim (fun h => absurd h.2 (ni rfl)) (fun h => absurd h (nn rfl)))).trans ((up_c (nn rfl)).trans (hid kn_89))
  have h_91 : c_62 41 22 = n2 := (hid kn_90)
  have kn_92 : Hid (c_5 P 3 = n3) := (hF_7 P 3 (fun h => absurd h.1 (np0 hP rfl))).trans (hn3)
  have kn_93 : Hid (c_62 P 3 = n3) := (hF_64 P 3 (qn_753ab1e1a hP)).trans ((up_c (np0 hP rfl)).trans (hid kn_92))
  have h_94 : c_62 P 3 = n3 := (hid kn_93)
  have kn_95 : Hid (c_5 41 23 = n3) := (hF_7 41 23 (fun h => absurd h.1 (nn rfl))).trans (hm3)
  have kn_96 : Hid (c_62 41 23 = n3) := (hF_64 41 23 (fun q => q.elim (fun h => absurd h.2 (ni rfl)) (fun h => absurd h (nn rfl)))).trans ((up_c (nn rfl)).trans (hid kn_95))
  have h_97 : c_62 41 23 = n3 := (hid kn_96)
  have kn_98 : Hid (c_5 3 4 = c 3 4) := hF_7 3 4 (fun h => absurd h.1 (nn rfl))
  have kn_99 : Hid (c_62 3 4 = c 3 4) := (hF_64 3 4 (fun q => q.elim (fun h => absurd h.1 (nn rfl)) (fun h => absurd h (nn rfl)))).trans ((up_c (nn rfl)).trans (hid kn_98))
  have h_100 : c_62 3 4 = c 3 4 := (hid kn_99)
  have h_101 := ir_41_52 hI
  have kn_102 : Hid (c_5 41 52 = c 41 52) := hF_7 41 52 (fun h => absurd h.1 (nn rfl))
  have kn_103 : Hid (c_62 41 52 = c 41 52) := (hF_64 41 52 (fun q => q.elim (fun h => absurd h.2 (ni rfl)) (fun h => absurd h (nn rfl)))).trans ((up_c (nn rfl)).trans (hid kn_102))
  have h_104 : c_62 41 52 = c 41 52 := (hid kn_103)
  have h_105 := ir_3_3 hI
  have kn_106 : Hid (c_5 3 3 = c 3 3) := hF_7 3 3 (fun h => absurd h.1 (nn rfl))
  have kn_107 : Hid (c_62 3 3 = c 3 3) := (hF_64 3 3 (fun q => q.elim (fun h => absurd h.1 (nn rfl)) (fun h => absurd h (nn rfl)))).trans ((up_c (nn rfl)).trans (hid kn_106))
  have h_108 : c_62 3 3 = c 3 3 := (hid kn_107)
  have h_109 := ir_41_35 hI
  have kn_110 : Hid (c_5 41 35 = c 41 35) := hF_7 41 35 (fun h => absurd h.1 (nn rfl))
  have kn_111 : Hid (c_62 41 35 = c 41 35) := (hF_64 41 35 (fun q => q.elim (fun h => absurd h.2 (ni rfl)) (fun h => absurd h (nn rfl)))).trans ((up_c (nn rfl)).trans (hid kn_110))
  have h_112 : c_62 41 35 = c 41 35 := (hid kn_111)
  have h_113 : c_62 3 4 = c 3 4 := (hid kn_99)
  exact K P Q c_62 0 (by decide) hI_63 ⟨by omega, ub_fr hU (fun j => (hF_64 2 j (fun q => q.elim (fun h => absurd h.1 (nn rfl)) (fun h => absurd h (nn rfl)))).trans ((up_c (nn rfl)).trans (hF_7 2 j (fun h => absurd h.1 (nn rfl))))) (fun j => (hF_64 43 j (fun q => q.elim (fun h => absurd h.1 (nn rfl)) (fun h => absurd h (nn rfl)))).trans ((up_c (nn rfl)).trans (hF_7 43 j (fun h => absurd h.1 (nn rfl))))), ⟨by omega, by omega, by omega, by omega⟩, by omega, by omega, iw_fr2 hIw (by omega) (fun j => (hF_64 6 j (fun q => q.elim (fun h => absurd h.1 (nn rfl)) (fun h => absurd h (nn rfl)))).trans ((up_c (nn rfl)).trans (hF_7 6 j (fun h => absurd h.1 (nn rfl))))) (fun j => (hF_64 66 j (fun q => q.elim (fun h => absurd h.1 (nn rfl)) (fun h => absurd h (nn rfl)))).trans ((up_c (nn rfl)).trans (hF_7 66 j (fun h => absurd h.1 (nn rfl)))))⟩

set_option maxRecDepth 100000 in
set_option maxHeartbeats 4000000 in
theorem o_34 {xs : Nat → Int32} {L i0 d nc ns P Q : Nat} {c : ME} {Z : AR → Prop} (hi : i0 + 8 ≤ L) (hL : L ≤ 100000) (hI : Iv 0 (-1) P Q c) (hR : Rq P c) (K : ∀ (P2 Q2 : Nat) (c2 : ME) (e : Nat), e ≤ 1 → Iv 0 (-1) P2 Q2 c2 → (Rq P2 c2) → Wp (a_scr L xs) (d + 90) 296 1816 [(4, vi (i0 : Int)), (3, .ref 67), (2, .ref 41), (1, .ref 0), (0, .ref a_SC)] [] (Wd P2 Q2 P2 P2 c2) (nc + e) (ns + 6 * e) Z) : Wp (a_scr L xs) (d + 90) 296 1505 [(4, vi (i0 : Int)), (3, .ref 67), (2, .ref 41), (1, .ref 0), (0, .ref a_SC)] [] (Wd P Q P P c) nc ns Z := by
  obtain ⟨x1, hx1⟩ : ∃ z, (xs (i0 + 1)).toInt = z := ⟨_, rfl⟩
  have x1r := c_rng (xs (i0 + 1))
  rw [hx1] at x1r
  obtain ⟨x2, hx2⟩ : ∃ z, (xs (i0 + 2)).toInt = z := ⟨_, rfl⟩
  have x2r := c_rng (xs (i0 + 2))
  rw [hx2] at x2r
  obtain ⟨x3, hx3⟩ : ∃ z, (xs (i0 + 3)).toInt = z := ⟨_, rfl⟩
  have x3r := c_rng (xs (i0 + 3))
  rw [hx3] at x3r
  obtain ⟨x4, hx4⟩ : ∃ z, (xs (i0 + 4)).toInt = z := ⟨_, rfl⟩
  have x4r := c_rng (xs (i0 + 4))
  rw [hx4] at x4r
  obtain ⟨x5, hx5⟩ : ∃ z, (xs (i0 + 5)).toInt = z := ⟨_, rfl⟩
  have x5r := c_rng (xs (i0 + 5))
  rw [hx5] at x5r
  obtain ⟨x6, hx6⟩ : ∃ z, (xs (i0 + 6)).toInt = z := ⟨_, rfl⟩
  have x6r := c_rng (xs (i0 + 6))
  rw [hx6] at x6r
  obtain ⟨x7, hx7⟩ : ∃ z, (xs (i0 + 7)).toInt = z := ⟨_, rfl⟩
  have x7r := c_rng (xs (i0 + 7))
  rw [hx7] at x7r
  have hP := iv_P hI
  have hQ := iv_Q hI
  have hT := rl_t hR
  have hU := rl_u hR
  obtain ⟨n0, hn0⟩ : ∃ z, c P 0 = z := ⟨_, rfl⟩
  have hm0 : c 41 20 = n0 := (rl_nums hR).1.symm.trans hn0
  have hr0 := ir_p0_0 hI hP
  rw [hn0] at hr0
  obtain ⟨n1, hn1⟩ : ∃ z, c P 1 = z := ⟨_, rfl⟩
  have hm1 : c 41 21 = n1 := (rl_nums hR).2.1.symm.trans hn1
  have hr1 := ir_p0_1 hI hP
  rw [hn1] at hr1
  obtain ⟨n2, hn2⟩ : ∃ z, c P 2 = z := ⟨_, rfl⟩
  have hm2 : c 41 22 = n2 := (rl_nums hR).2.2.1.symm.trans hn2
  have hr2 := ir_p0_2 hI hP
  rw [hn2] at hr2
  obtain ⟨n3, hn3⟩ : ∃ z, c P 3 = z := ⟨_, rfl⟩
  have hm3 : c 41 23 = n3 := (rl_nums hR).2.2.2.symm.trans hn3
  have hr3 := ir_p0_3 hI hP
  rw [hn3] at hr3
  have hNimg := rl_img hR
  have hNwk := rl_wk hR
  have h_1 := ir_3_4 hI
  have hIw := rl_iw hR
  refine q_aload_n c_296_1505 rfl (v_cv c_296_1506 km_9_239 rfl rfl (Nat.le_of_ble_eq_true rfl) ⟨⟨rfl, rfl⟩, Nat.le_of_ble_eq_true rfl, rfl⟩ (Nat.le_of_ble_eq_true rfl) (Nat.le_of_ble_eq_true rfl) (s_107 hI (fun c_2 y_5 hI_3 hF_4 hy_5 => (bk_inl (q_pop c_296_1509 rfl (q_aload_n c_296_1510 rfl (v_cv c_296_1511 km_9_242 rfl rfl (Nat.le_of_ble_eq_true rfl) ⟨⟨rfl, rfl⟩, Nat.le_of_ble_eq_true rfl, rfl⟩ (Nat.le_of_ble_eq_true rfl) (Nat.le_of_ble_eq_true rfl) (s_249 hI_3 (fun c_6 y_9 hI_7 hF_8 hy_9 => (bk_inl (q_pop c_296_1514 rfl ?_)))))))))))
  refine q_goto (t := 1816) c_296_1515 rfl (Wp_ls [(4, vi (i0 : Int)), (3, .ref 67), (2, .ref 41), (1, .ref 0), (0, .ref a_SC)] (lsub_cons rfl (lsub_cons rfl (lsub_cons rfl (lsub_cons rfl (lsub_cons rfl lsub_nil))))) ?_)
  have h_10 := ir_1_3 hI
  have kn_11 : Hid (c_2 1 3 = c 1 3) := hF_4 1 3 (qn_db0fa2040 hP)
  have kn_12 : Hid (c_6 1 3 = c 1 3) := (hF_8 1 3 qn_965711e77).trans (hid kn_11)
  have h_13 : c_6 1 3 = c 1 3 := (hid kn_12)
  have h_14 := ir_41_2 hI
  have kn_15 : Hid (c_2 41 2 = c 41 2) := hF_4 41 2 (qn_4d24c7afb hP)
  have kn_16 : Hid (c_6 41 2 = c 41 2) := (hF_8 41 2 qn_dd6cb5371).trans (hid kn_15)
  have h_17 : c_6 41 2 = c 41 2 := (hid kn_16)
  have kn_18 : Hid (c_2 P 0 = n0) := (hF_4 P 0 (fun q => q.elim (fun h => absurd h (p0p rfl)) (fun h => absurd h (p0p rfl)))).trans (hn0)
  have kn_19 : Hid (c_6 P 0 = n0) := (hF_8 P 0 (qn_82f5c699c hP)).trans (hid kn_18)
  have h_20 : c_6 P 0 = n0 := (hid kn_19)
  have kn_21 : Hid (c_2 41 20 = n0) := (hF_4 41 20 (qn_4d24c7afb hP)).trans (hm0)
  have kn_22 : Hid (c_6 41 20 = n0) := (hF_8 41 20 qn_4a675523d).trans (hid kn_21)
  have h_23 : c_6 41 20 = n0 := (hid kn_22)
  have kn_24 : Hid (c_2 P 1 = n1) := (hF_4 P 1 (fun q => q.elim (fun h => absurd h (p0p rfl)) (fun h => absurd h (p0p rfl)))).trans (hn1)
  have kn_25 : Hid (c_6 P 1 = n1) := (hF_8 P 1 (qn_82f5c699c hP)).trans (hid kn_24)
  have h_26 : c_6 P 1 = n1 := (hid kn_25)
  have kn_27 : Hid (c_2 41 21 = n1) := (hF_4 41 21 (qn_4d24c7afb hP)).trans (hm1)
  have kn_28 : Hid (c_6 41 21 = n1) := (hF_8 41 21 qn_b8c7ae319).trans (hid kn_27)
  have h_29 : c_6 41 21 = n1 := (hid kn_28)
  have kn_30 : Hid (c_2 P 2 = n2) := (hF_4 P 2 (fun q => q.elim (fun h => absurd h (p0p rfl)) (fun h => absurd h (p0p rfl)))).trans (hn2)
  have kn_31 : Hid (c_6 P 2 = n2) := (hF_8 P 2 (qn_82f5c699c hP)).trans (hid kn_30)
  have h_32 : c_6 P 2 = n2 := (hid kn_31)
  have kn_33 : Hid (c_2 41 22 = n2) := (hF_4 41 22 (qn_4d24c7afb hP)).trans (hm2)
  have kn_34 : Hid (c_6 41 22 = n2) := (hF_8 41 22 qn_6845dc871).trans (hid kn_33)
  have h_35 : c_6 41 22 = n2 := (hid kn_34)
  have kn_36 : Hid (c_2 P 3 = n3) := (hF_4 P 3 (fun q => q.elim (fun h => absurd h (p0p rfl)) (fun h => absurd h (p0p rfl)))).trans (hn3)
  have kn_37 : Hid (c_6 P 3 = n3) := (hF_8 P 3 (qn_82f5c699c hP)).trans (hid kn_36)
  have h_38 : c_6 P 3 = n3 := (hid kn_37)
  have kn_39 : Hid (c_2 41 23 = n3) := (hF_4 41 23 (qn_4d24c7afb hP)).trans (hm3)
  have kn_40 : Hid (c_6 41 23 = n3) := (hF_8 41 23 qn_d7f907dd2).trans (hid kn_39)
  have h_41 : c_6 41 23 = n3 := (hid kn_40)
  have kn_42 : Hid (c_2 3 4 = c 3 4) := hF_4 3 4 (qn_e1cff7f51 hP)
  have kn_43 : Hid (c_6 3 4 = c 3 4) := (hF_8 3 4 qn_9184c3c35).trans (hid kn_42)
  have h_44 : c_6 3 4 = c 3 4 := (hid kn_43)
  have h_45 := ir_41_52 hI
  have kn_46 : Hid (c_2 41 52 = c 41 52) := hF_4 41 52 (qn_4d24c7afb hP)
  have kn_47 : Hid (c_6 41 52 = c 41 52) := (hF_8 41 52 qn_fe8d01f7a).trans (hid kn_46)
  have h_48 : c_6 41 52 = c 41 52 := (hid kn_47)
  have h_49 := ir_3_3 hI
  have kn_50 : Hid (c_2 3 3 = c 3 3) := hF_4 3 3 (qn_e1cff7f51 hP)
  have kn_51 : Hid (c_6 3 3 = c 3 3) := (hF_8 3 3 qn_9184c3c35).trans (hid kn_50)
  have h_52 : c_6 3 3 = c 3 3 := (hid kn_51)
  have h_53 := ir_41_35 hI
  have kn_54 : Hid (c_2 41 35 = c 41 35) := hF_4 41 35 (qn_4d24c7afb hP)
  have kn_55 : Hid (c_6 41 35 = c 41 35) := (hF_8 41 35 qn_300bb1d4d).trans (hid kn_54)
  have h_56 : c_6 41 35 = c 41 35 := (hid kn_55)
  have h_57 : c_6 3 4 = c 3 4 := (hid kn_43)
  exact K P Q c_6 0 (by decide) hI_7 ⟨by omega, ub_fr hU (fun j => (hF_8 2 j qn_7bbf03f40).trans (hF_4 2 j (qn_389d7b966 hP))) (fun j => (hF_8 43 j qn_da8a66655).trans (hF_4 43 j (qn_afbd556c9 hP))), ⟨by omega, by omega, by omega, by omega⟩, by omega, by omega, iw_fr2 hIw (by omega) (fun j => (hF_8 6 j qn_aea755759).trans (hF_4 6 j (qn_4b8057cf3 hP))) (fun j => (hF_8 66 j qn_7c789e383).trans (hF_4 66 j (qn_6dde8fd4f hP)))⟩

set_option maxRecDepth 100000 in
set_option maxHeartbeats 4000000 in
theorem o_35 {xs : Nat → Int32} {L i0 d nc ns P Q : Nat} {c : ME} {Z : AR → Prop} (hi : i0 + 8 ≤ L) (hL : L ≤ 100000) (hI : Iv 0 (-1) P Q c) (hR : Rq P c) (K : ∀ (P2 Q2 : Nat) (c2 : ME) (e : Nat), e ≤ 1 → Iv 0 (-1) P2 Q2 c2 → (Rq P2 c2) → Wp (a_scr L xs) (d + 90) 296 1816 [(4, vi (i0 : Int)), (3, .ref 67), (2, .ref 41), (1, .ref 0), (0, .ref a_SC)] [] (Wd P2 Q2 P2 P2 c2) (nc + e) (ns + 6 * e) Z) : Wp (a_scr L xs) (d + 90) 296 1518 [(4, vi (i0 : Int)), (3, .ref 67), (2, .ref 41), (1, .ref 0), (0, .ref a_SC)] [] (Wd P Q P P c) nc ns Z := by
  obtain ⟨x1, hx1⟩ : ∃ z, (xs (i0 + 1)).toInt = z := ⟨_, rfl⟩
  have x1r := c_rng (xs (i0 + 1))
  rw [hx1] at x1r
  obtain ⟨x2, hx2⟩ : ∃ z, (xs (i0 + 2)).toInt = z := ⟨_, rfl⟩
  have x2r := c_rng (xs (i0 + 2))
  rw [hx2] at x2r
  obtain ⟨x3, hx3⟩ : ∃ z, (xs (i0 + 3)).toInt = z := ⟨_, rfl⟩
  have x3r := c_rng (xs (i0 + 3))
  rw [hx3] at x3r
  obtain ⟨x4, hx4⟩ : ∃ z, (xs (i0 + 4)).toInt = z := ⟨_, rfl⟩
  have x4r := c_rng (xs (i0 + 4))
  rw [hx4] at x4r
  obtain ⟨x5, hx5⟩ : ∃ z, (xs (i0 + 5)).toInt = z := ⟨_, rfl⟩
  have x5r := c_rng (xs (i0 + 5))
  rw [hx5] at x5r
  obtain ⟨x6, hx6⟩ : ∃ z, (xs (i0 + 6)).toInt = z := ⟨_, rfl⟩
  have x6r := c_rng (xs (i0 + 6))
  rw [hx6] at x6r
  obtain ⟨x7, hx7⟩ : ∃ z, (xs (i0 + 7)).toInt = z := ⟨_, rfl⟩
  have x7r := c_rng (xs (i0 + 7))
  rw [hx7] at x7r
  have hP := iv_P hI
  have hQ := iv_Q hI
  have hT := rl_t hR
  have hU := rl_u hR
  obtain ⟨n0, hn0⟩ : ∃ z, c P 0 = z := ⟨_, rfl⟩
  have hm0 : c 41 20 = n0 := (rl_nums hR).1.symm.trans hn0
  have hr0 := ir_p0_0 hI hP
  rw [hn0] at hr0
  obtain ⟨n1, hn1⟩ : ∃ z, c P 1 = z := ⟨_, rfl⟩
  have hm1 : c 41 21 = n1 := (rl_nums hR).2.1.symm.trans hn1
  have hr1 := ir_p0_1 hI hP
  rw [hn1] at hr1
  obtain ⟨n2, hn2⟩ : ∃ z, c P 2 = z := ⟨_, rfl⟩
  have hm2 : c 41 22 = n2 := (rl_nums hR).2.2.1.symm.trans hn2
  have hr2 := ir_p0_2 hI hP
  rw [hn2] at hr2
  obtain ⟨n3, hn3⟩ : ∃ z, c P 3 = z := ⟨_, rfl⟩
  have hm3 : c 41 23 = n3 := (rl_nums hR).2.2.2.symm.trans hn3
  have hr3 := ir_p0_3 hI hP
  rw [hn3] at hr3
  have hNimg := rl_img hR
  have hNwk := rl_wk hR
  have h_1 := ir_3_4 hI
  have hIw := rl_iw hR
  refine q_aload_n c_296_1518 rfl (q_aload_n c_296_1519 rfl (q_iload c_296_1520 rfl (q_iconst c_296_1522 (v_iadd (v := (i0 : Int) + 1) c_296_1523 rfl (v_scr (j := i0 + 1) c_296_1524 (by omega) (by omega) hL hx1 (q_aload_n c_296_1525 rfl (q_call c_296_1526 rfl rfl rfl ?_)))))))
  refine q_aload_n c_292_0 rfl (q_iconst c_292_1 (q_aload_n c_292_2 rfl (q_iload_n c_292_3 rfl ?_)))
  refine v_cv c_292_4 km_9_105 rfl rfl (Nat.le_of_ble_eq_true rfl) ⟨⟨rfl, rfl⟩, Nat.le_of_ble_eq_true rfl, rfl⟩ (Nat.le_of_ble_eq_true rfl) (Nat.le_of_ble_eq_true rfl) (s_102 (a1 := x1) hI (show (-2147483648) ≤ x1 ∧ x1 ≤ 2147483647 from ⟨by omega, by omega⟩) (fun c_2 hI_3 hF_4 => ?_) (fun c_5 y_8 hI_6 hF_7 hy_8 => ?_))
  · skip
    refine bk_thr (z := Int32.ofInt 1) rfl ⟨_, _, rfl⟩ rfl (bk_inl (q_istore c_296_1529 (Nat.le_of_ble_eq_true rfl) (q_aload_n c_296_1531 rfl (q_aload_n c_296_1532 rfl (q_iload c_296_1533 rfl (q_iconst c_296_1535 (v_iadd (v := (i0 : Int) + 1) c_296_1536 rfl ?_)))))))
    refine v_scr (j := i0 + 1) c_296_1537 (by omega) (by omega) hL hx1 (v_cv c_296_1538 km_9_245 rfl rfl (Nat.le_of_ble_eq_true rfl) ⟨⟨rfl, rfl⟩, Nat.le_of_ble_eq_true rfl, rfl⟩ (Nat.le_of_ble_eq_true rfl) (Nat.le_of_ble_eq_true rfl) (s_250 (a1 := x1) hI_3 (show (-2147483648) ≤ x1 ∧ x1 ≤ 2147483647 from ⟨by omega, by omega⟩) (fun c_9 y_12 hI_10 hF_11 hy_12 => (bk_inl (q_istore c_296_1541 (Nat.le_of_ble_eq_true rfl) (q_goto (t := 1816) c_296_1543 rfl (Wp_ls [(4, vi (i0 : Int)), (3, .ref 67), (2, .ref 41), (1, .ref 0), (0, .ref a_SC)] (lsub_cons rfl (lsub_cons rfl (lsub_cons rfl (lsub_cons rfl (lsub_cons rfl lsub_nil))))) ?_)))))))
    have h_13 := ir_1_3 hI
    have kn_14 : Hid (c_2 1 3 = c 1 3) := hF_4 1 3 (fun h => absurd h.1 (nn rfl))
    have kn_15 : Hid (c_9 1 3 = c 1 3) := (hF_11 1 3 qn_39cd18c3e).trans (hid kn_14)
    have h_16 : c_9 1 3 = c 1 3 := (hid kn_15)
    have h_17 := ir_41_2 hI
    have kn_18 : Hid (c_2 41 2 = c 41 2) := hF_4 41 2 (fun h => absurd h.1 (nn rfl))
    have kn_19 : Hid (c_9 41 2 = c 41 2) := (hF_11 41 2 qn_53bdb2099).trans (hid kn_18)
    have h_20 : c_9 41 2 = c 41 2 := (hid kn_19)
    have kn_21 : Hid (c_2 P 0 = n0) := (hF_4 P 0 (fun h => absurd h.1 (np0 hP rfl))).trans (hn0)
    have kn_22 : Hid (c_9 P 0 = n0) := (hF_11 P 0 (qn_857752076 hP)).trans (hid kn_21)
    have h_23 : c_9 P 0 = n0 := (hid kn_22)
    have kn_24 : Hid (c_2 41 20 = n0) := (hF_4 41 20 (fun h => absurd h.1 (nn rfl))).trans (hm0)
    have kn_25 : Hid (c_9 41 20 = n0) := (hF_11 41 20 qn_110b29ed6).trans (hid kn_24)
    have h_26 : c_9 41 20 = n0 := (hid kn_25)
    have kn_27 : Hid (c_2 P 1 = n1) := (hF_4 P 1 (fun h => absurd h.1 (np0 hP rfl))).trans (hn1)
    have kn_28 : Hid (c_9 P 1 = n1) := (hF_11 P 1 (qn_857752076 hP)).trans (hid kn_27)
    have h_29 : c_9 P 1 = n1 := (hid kn_28)
    have kn_30 : Hid (c_2 41 21 = n1) := (hF_4 41 21 (fun h => absurd h.1 (nn rfl))).trans (hm1)
    have kn_31 : Hid (c_9 41 21 = n1) := (hF_11 41 21 qn_561064c41).trans (hid kn_30)
    have h_32 : c_9 41 21 = n1 := (hid kn_31)
    have kn_33 : Hid (c_2 P 2 = n2) := (hF_4 P 2 (fun h => absurd h.1 (np0 hP rfl))).trans (hn2)
    have kn_34 : Hid (c_9 P 2 = n2) := (hF_11 P 2 (qn_857752076 hP)).trans (hid kn_33)
    have h_35 : c_9 P 2 = n2 := (hid kn_34)
    have kn_36 : Hid (c_2 41 22 = n2) := (hF_4 41 22 (fun h => absurd h.1 (nn rfl))).trans (hm2)
    have kn_37 : Hid (c_9 41 22 = n2) := (hF_11 41 22 qn_1a460b46b).trans (hid kn_36)
    have h_38 : c_9 41 22 = n2 := (hid kn_37)
    have kn_39 : Hid (c_2 P 3 = n3) := (hF_4 P 3 (fun h => absurd h.1 (np0 hP rfl))).trans (hn3)
    have kn_40 : Hid (c_9 P 3 = n3) := (hF_11 P 3 (qn_857752076 hP)).trans (hid kn_39)
    have h_41 : c_9 P 3 = n3 := (hid kn_40)
    have kn_42 : Hid (c_2 41 23 = n3) := (hF_4 41 23 (fun h => absurd h.1 (nn rfl))).trans (hm3)
    have kn_43 : Hid (c_9 41 23 = n3) := (hF_11 41 23 qn_b79f282cd).trans (hid kn_42)
    have h_44 : c_9 41 23 = n3 := (hid kn_43)
    have kn_45 : Hid (c_2 3 4 = c 3 4) := hF_4 3 4 (fun h => absurd h.1 (nn rfl))
    have kn_46 : Hid (c_9 3 4 = c 3 4) := (hF_11 3 4 qn_bf2303cc8).trans (hid kn_45)
    have h_47 : c_9 3 4 = c 3 4 := (hid kn_46)
    have h_48 := ir_41_52 hI
    have kn_49 : Hid (c_2 41 52 = c 41 52) := hF_4 41 52 (fun h => absurd h.1 (nn rfl))
    have kn_50 : Hid (c_9 41 52 = c 41 52) := (hF_11 41 52 qn_90835161a).trans (hid kn_49)
    have h_51 : c_9 41 52 = c 41 52 := (hid kn_50)
    have h_52 := ir_3_3 hI
    have kn_53 : Hid (c_2 3 3 = c 3 3) := hF_4 3 3 (fun h => absurd h.1 (nn rfl))
    have kn_54 : Hid (c_9 3 3 = c 3 3) := (hF_11 3 3 qn_bf2303cc8).trans (hid kn_53)
    have h_55 : c_9 3 3 = c 3 3 := (hid kn_54)
    have h_56 := ir_41_35 hI
    have kn_57 : Hid (c_2 41 35 = c 41 35) := hF_4 41 35 (fun h => absurd h.1 (nn rfl))
    have kn_58 : Hid (c_9 41 35 = c 41 35) := (hF_11 41 35 qn_732a91ea5).trans (hid kn_57)
    have h_59 : c_9 41 35 = c 41 35 := (hid kn_58)
    have h_60 : c_9 3 4 = c 3 4 := (hid kn_46)
    exact K P Q c_9 1 (by decide) hI_10 ⟨by omega, ub_fr hU (fun j => (hF_11 2 j qn_2ad67e194).trans (hF_4 2 j (fun h => absurd h.1 (nn rfl)))) (fun j => (hF_11 43 j qn_1520ff5e3).trans (hF_4 43 j (fun h => absurd h.1 (nn rfl)))), ⟨by omega, by omega, by omega, by omega⟩, by omega, by omega, iw_fr2 hIw (by omega) (fun j => (hF_11 6 j qn_e1050858a).trans (hF_4 6 j (fun h => absurd h.1 (nn rfl)))) (fun j => (hF_11 66 j qn_5616dd9ce).trans (hF_4 66 j (fun h => absurd h.1 (nn rfl))))⟩
  refine bk_inl (v_i2l c_292_7 (by omega) (v_ls c_292_8 rfl (by decide) (by decide) (by decide) (q_goto (t := 15) c_292_9 rfl (q_iconst c_292_15 (q_iret c_292_16 rfl (bk_inl (q_istore c_296_1529 (Nat.le_of_ble_eq_true rfl) ?_)))))))
  refine q_aload_n c_296_1531 rfl (q_aload_n c_296_1532 rfl (q_iload c_296_1533 rfl (q_iconst c_296_1535 (v_iadd (v := (i0 : Int) + 1) c_296_1536 rfl (v_scr (j := i0 + 1) c_296_1537 (by omega) (by omega) hL hx1 ?_)))))
  have hI_61 := iw_lx (a := 67) (j := 0) (v := y_8) hI_6 (by omega)
  refine v_cv c_296_1538 km_9_245 rfl rfl (Nat.le_of_ble_eq_true rfl) ⟨⟨rfl, rfl⟩, Nat.le_of_ble_eq_true rfl, rfl⟩ (Nat.le_of_ble_eq_true rfl) (Nat.le_of_ble_eq_true rfl) (s_250 (a1 := x1) hI_61 (show (-2147483648) ≤ x1 ∧ x1 ≤ 2147483647 from ⟨by omega, by omega⟩) (fun c_62 y_65 hI_63 hF_64 hy_65 => (bk_inl (q_istore c_296_1541 (Nat.le_of_ble_eq_true rfl) (q_goto (t := 1816) c_296_1543 rfl (Wp_ls [(4, vi (i0 : Int)), (3, .ref 67), (2, .ref 41), (1, .ref 0), (0, .ref a_SC)] (lsub_cons rfl (lsub_cons rfl (lsub_cons rfl (lsub_cons rfl (lsub_cons rfl lsub_nil))))) ?_))))))
  have h_66 := ir_1_3 hI
  have kn_67 : Hid (c_5 1 3 = c 1 3) := hF_7 1 3 (fun h => absurd h.1 (nn rfl))
  have kn_68 : Hid (c_62 1 3 = c 1 3) := (hF_64 1 3 qn_39cd18c3e).trans ((up_c (nn rfl)).trans (hid kn_67))
  have h_69 : c_62 1 3 = c 1 3 := (hid kn_68)
  have h_70 := ir_41_2 hI
  have kn_71 : Hid (c_5 41 2 = c 41 2) := hF_7 41 2 (fun h => absurd h.1 (nn rfl))
  have kn_72 : Hid (c_62 41 2 = c 41 2) := (hF_64 41 2 qn_53bdb2099).trans ((up_c (nn rfl)).trans (hid kn_71))
  have h_73 : c_62 41 2 = c 41 2 := (hid kn_72)
  have kn_74 : Hid (c_5 P 0 = n0) := (hF_7 P 0 (fun h => absurd h.1 (np0 hP rfl))).trans (hn0)
  have kn_75 : Hid (c_62 P 0 = n0) := (hF_64 P 0 (qn_857752076 hP)).trans ((up_c (np0 hP rfl)).trans (hid kn_74))
  have h_76 : c_62 P 0 = n0 := (hid kn_75)
  have kn_77 : Hid (c_5 41 20 = n0) := (hF_7 41 20 (fun h => absurd h.1 (nn rfl))).trans (hm0)
  have kn_78 : Hid (c_62 41 20 = n0) := (hF_64 41 20 qn_110b29ed6).trans ((up_c (nn rfl)).trans (hid kn_77))
  have h_79 : c_62 41 20 = n0 := (hid kn_78)
  have kn_80 : Hid (c_5 P 1 = n1) := (hF_7 P 1 (fun h => absurd h.1 (np0 hP rfl))).trans (hn1)
  have kn_81 : Hid (c_62 P 1 = n1) := (hF_64 P 1 (qn_857752076 hP)).trans ((up_c (np0 hP rfl)).trans (hid kn_80))
  have h_82 : c_62 P 1 = n1 := (hid kn_81)
  have kn_83 : Hid (c_5 41 21 = n1) := (hF_7 41 21 (fun h => absurd h.1 (nn rfl))).trans (hm1)
  have kn_84 : Hid (c_62 41 21 = n1) := (hF_64 41 21 qn_561064c41).trans ((up_c (nn rfl)).trans (hid kn_83))
  have h_85 : c_62 41 21 = n1 := (hid kn_84)
  have kn_86 : Hid (c_5 P 2 = n2) := (hF_7 P 2 (fun h => absurd h.1 (np0 hP rfl))).trans (hn2)
  have kn_87 : Hid (c_62 P 2 = n2) := (hF_64 P 2 (qn_857752076 hP)).trans ((up_c (np0 hP rfl)).trans (hid kn_86))
  have h_88 : c_62 P 2 = n2 := (hid kn_87)
  have kn_89 : Hid (c_5 41 22 = n2) := (hF_7 41 22 (fun h => absurd h.1 (nn rfl))).trans (hm2)
  have kn_90 : Hid (c_62 41 22 = n2) := (hF_64 41 22 qn_1a460b46b).trans ((up_c (nn rfl)).trans (hid kn_89))
  have h_91 : c_62 41 22 = n2 := (hid kn_90)
  have kn_92 : Hid (c_5 P 3 = n3) := (hF_7 P 3 (fun h => absurd h.1 (np0 hP rfl))).trans (hn3)
  have kn_93 : Hid (c_62 P 3 = n3) := (hF_64 P 3 (qn_857752076 hP)).trans ((up_c (np0 hP rfl)).trans (hid kn_92))
  have h_94 : c_62 P 3 = n3 := (hid kn_93)
  have kn_95 : Hid (c_5 41 23 = n3) := (hF_7 41 23 (fun h => absurd h.1 (nn rfl))).trans (hm3)
  have kn_96 : Hid (c_62 41 23 = n3) := (hF_64 41 23 qn_b79f282cd).trans ((up_c (nn rfl)).trans (hid kn_95))
  have h_97 : c_62 41 23 = n3 := (hid kn_96)
  have kn_98 : Hid (c_5 3 4 = c 3 4) := hF_7 3 4 (fun h => absurd h.1 (nn rfl))
  have kn_99 : Hid (c_62 3 4 = c 3 4) := (hF_64 3 4 qn_bf2303cc8).trans ((up_c (nn rfl)).trans (hid kn_98))
  have h_100 : c_62 3 4 = c 3 4 := (hid kn_99)
  have h_101 := ir_41_52 hI
  have kn_102 : Hid (c_5 41 52 = c 41 52) := hF_7 41 52 (fun h => absurd h.1 (nn rfl))
  have kn_103 : Hid (c_62 41 52 = c 41 52) := (hF_64 41 52 qn_90835161a).trans ((up_c (nn rfl)).trans (hid kn_102))
  have h_104 : c_62 41 52 = c 41 52 := (hid kn_103)
  have h_105 := ir_3_3 hI
  have kn_106 : Hid (c_5 3 3 = c 3 3) := hF_7 3 3 (fun h => absurd h.1 (nn rfl))
  have kn_107 : Hid (c_62 3 3 = c 3 3) := (hF_64 3 3 qn_bf2303cc8).trans ((up_c (nn rfl)).trans (hid kn_106))
  have h_108 : c_62 3 3 = c 3 3 := (hid kn_107)
  have h_109 := ir_41_35 hI
  have kn_110 : Hid (c_5 41 35 = c 41 35) := hF_7 41 35 (fun h => absurd h.1 (nn rfl))
  have kn_111 : Hid (c_62 41 35 = c 41 35) := (hF_64 41 35 qn_732a91ea5).trans ((up_c (nn rfl)).trans (hid kn_110))
  have h_112 : c_62 41 35 = c 41 35 := (hid kn_111)
  have h_113 : c_62 3 4 = c 3 4 := (hid kn_99)
  exact K P Q c_62 0 (by decide) hI_63 ⟨by omega, ub_fr hU (fun j => (hF_64 2 j qn_2ad67e194).trans ((up_c (nn rfl)).trans (hF_7 2 j (fun h => absurd h.1 (nn rfl))))) (fun j => (hF_64 43 j qn_1520ff5e3).trans ((up_c (nn rfl)).trans (hF_7 43 j (fun h => absurd h.1 (nn rfl))))), ⟨by omega, by omega, by omega, by omega⟩, by omega, by omega, iw_fr2 hIw (by omega) (fun j => (hF_64 6 j qn_e1050858a).trans ((up_c (nn rfl)).trans (hF_7 6 j (fun h => absurd h.1 (nn rfl))))) (fun j => (hF_64 66 j qn_5616dd9ce).trans ((up_c (nn rfl)).trans (hF_7 66 j (fun h => absurd h.1 (nn rfl)))))⟩

set_option maxRecDepth 100000 in
set_option maxHeartbeats 4000000 in
theorem o_36 {xs : Nat → Int32} {L i0 d nc ns P Q : Nat} {c : ME} {Z : AR → Prop} (hi : i0 + 8 ≤ L) (hL : L ≤ 100000) (hI : Iv 0 (-1) P Q c) (hR : Rq P c) (K : ∀ (P2 Q2 : Nat) (c2 : ME) (e : Nat), e ≤ 1 → Iv 0 (-1) P2 Q2 c2 → (Rq P2 c2) → Wp (a_scr L xs) (d + 90) 296 1816 [(4, vi (i0 : Int)), (3, .ref 67), (2, .ref 41), (1, .ref 0), (0, .ref a_SC)] [] (Wd P2 Q2 P2 P2 c2) (nc + e) (ns + 6 * e) Z) : Wp (a_scr L xs) (d + 90) 296 1546 [(4, vi (i0 : Int)), (3, .ref 67), (2, .ref 41), (1, .ref 0), (0, .ref a_SC)] [] (Wd P Q P P c) nc ns Z := by
  obtain ⟨x1, hx1⟩ : ∃ z, (xs (i0 + 1)).toInt = z := ⟨_, rfl⟩
  have x1r := c_rng (xs (i0 + 1))
  rw [hx1] at x1r
  obtain ⟨x2, hx2⟩ : ∃ z, (xs (i0 + 2)).toInt = z := ⟨_, rfl⟩
  have x2r := c_rng (xs (i0 + 2))
  rw [hx2] at x2r
  obtain ⟨x3, hx3⟩ : ∃ z, (xs (i0 + 3)).toInt = z := ⟨_, rfl⟩
  have x3r := c_rng (xs (i0 + 3))
  rw [hx3] at x3r
  obtain ⟨x4, hx4⟩ : ∃ z, (xs (i0 + 4)).toInt = z := ⟨_, rfl⟩
  have x4r := c_rng (xs (i0 + 4))
  rw [hx4] at x4r
  obtain ⟨x5, hx5⟩ : ∃ z, (xs (i0 + 5)).toInt = z := ⟨_, rfl⟩
  have x5r := c_rng (xs (i0 + 5))
  rw [hx5] at x5r
  obtain ⟨x6, hx6⟩ : ∃ z, (xs (i0 + 6)).toInt = z := ⟨_, rfl⟩
  have x6r := c_rng (xs (i0 + 6))
  rw [hx6] at x6r
  obtain ⟨x7, hx7⟩ : ∃ z, (xs (i0 + 7)).toInt = z := ⟨_, rfl⟩
  have x7r := c_rng (xs (i0 + 7))
  rw [hx7] at x7r
  have hP := iv_P hI
  have hQ := iv_Q hI
  have hT := rl_t hR
  have hU := rl_u hR
  obtain ⟨n0, hn0⟩ : ∃ z, c P 0 = z := ⟨_, rfl⟩
  have hm0 : c 41 20 = n0 := (rl_nums hR).1.symm.trans hn0
  have hr0 := ir_p0_0 hI hP
  rw [hn0] at hr0
  obtain ⟨n1, hn1⟩ : ∃ z, c P 1 = z := ⟨_, rfl⟩
  have hm1 : c 41 21 = n1 := (rl_nums hR).2.1.symm.trans hn1
  have hr1 := ir_p0_1 hI hP
  rw [hn1] at hr1
  obtain ⟨n2, hn2⟩ : ∃ z, c P 2 = z := ⟨_, rfl⟩
  have hm2 : c 41 22 = n2 := (rl_nums hR).2.2.1.symm.trans hn2
  have hr2 := ir_p0_2 hI hP
  rw [hn2] at hr2
  obtain ⟨n3, hn3⟩ : ∃ z, c P 3 = z := ⟨_, rfl⟩
  have hm3 : c 41 23 = n3 := (rl_nums hR).2.2.2.symm.trans hn3
  have hr3 := ir_p0_3 hI hP
  rw [hn3] at hr3
  have hNimg := rl_img hR
  have hNwk := rl_wk hR
  have h_1 := ir_3_4 hI
  have hIw := rl_iw hR
  refine q_aload_n c_296_1546 rfl (q_aload_n c_296_1547 rfl (q_iload c_296_1548 rfl (q_iconst c_296_1550 (v_iadd (v := (i0 : Int) + 1) c_296_1551 rfl (v_scr (j := i0 + 1) c_296_1552 (by omega) (by omega) hL hx1 (q_aload_n c_296_1553 rfl (q_iload c_296_1554 rfl ?_)))))))
  refine q_iconst c_296_1556 (v_iadd (v := (i0 : Int) + 2) c_296_1557 rfl (v_scr (j := i0 + 2) c_296_1558 (by omega) (by omega) hL hx2 (q_aload_n c_296_1559 rfl (q_call c_296_1560 rfl rfl rfl (q_aload_n c_293_0 rfl (q_iconst c_293_1 (q_aload_n c_293_2 rfl ?_)))))))
  refine q_iload_n c_293_3 rfl (q_iload_n c_293_4 rfl ?_)
  refine v_cv c_293_5 km_9_108 rfl rfl (Nat.le_of_ble_eq_true rfl) ⟨⟨rfl, rfl⟩, Nat.le_of_ble_eq_true rfl, rfl⟩ (Nat.le_of_ble_eq_true rfl) (Nat.le_of_ble_eq_true rfl) (s_116 (a1 := x1) (a2 := x2) hI (show (-2147483648) ≤ x1 ∧ x1 ≤ 2147483647 from ⟨by omega, by omega⟩) (show (-2147483648) ≤ x2 ∧ x2 ≤ 2147483647 from ⟨by omega, by omega⟩) (fun c_2 hI_3 hF_4 => ?_) (fun c_5 hI_6 hF_7 => ?_) (fun c_8 y_11 hI_9 hF_10 hy_11 => ?_))
  · skip
    refine bk_thr (z := Int32.ofInt 1) rfl ⟨_, _, rfl⟩ rfl (bk_inl (q_istore c_296_1563 (Nat.le_of_ble_eq_true rfl) (q_aload_n c_296_1565 rfl (q_aload_n c_296_1566 rfl (q_iload c_296_1567 rfl (q_iconst c_296_1569 (v_iadd (v := (i0 : Int) + 1) c_296_1570 rfl ?_)))))))
    refine v_scr (j := i0 + 1) c_296_1571 (by omega) (by omega) hL hx1 (q_aload_n c_296_1572 rfl (q_iload c_296_1573 rfl (q_iconst c_296_1575 (v_iadd (v := (i0 : Int) + 2) c_296_1576 rfl (v_scr (j := i0 + 2) c_296_1577 (by omega) (by omega) hL hx2 (v_cv c_296_1578 km_9_248 rfl rfl (Nat.le_of_ble_eq_true rfl) ⟨⟨rfl, rfl⟩, Nat.le_of_ble_eq_true rfl, rfl⟩ (Nat.le_of_ble_eq_true rfl) (Nat.le_of_ble_eq_true rfl) (s_251 (a1 := x1) (a2 := x2) hI_3 (show (-2147483648) ≤ x1 ∧ x1 ≤ 2147483647 from ⟨by omega, by omega⟩) (show (-2147483648) ≤ x2 ∧ x2 ≤ 2147483647 from ⟨by omega, by omega⟩) (fun c_12 y_15 hI_13 hF_14 hy_15 => (bk_inl ?_)))))))))
    refine q_istore c_296_1581 (Nat.le_of_ble_eq_true rfl) (q_goto (t := 1816) c_296_1583 rfl (Wp_ls [(4, vi (i0 : Int)), (3, .ref 67), (2, .ref 41), (1, .ref 0), (0, .ref a_SC)] (lsub_cons rfl (lsub_cons rfl (lsub_cons rfl (lsub_cons rfl (lsub_cons rfl lsub_nil))))) ?_))
    have h_16 := ir_1_3 hI
    have kn_17 : Hid (c_2 1 3 = c 1 3) := hF_4 1 3 (fun q => q.elim (fun h => absurd h.1 (nn rfl)) (fun h => absurd h.1 (nn rfl)))
    have kn_18 : Hid (c_12 1 3 = c 1 3) := (hF_14 1 3 qn_39cd18c3e).trans (hid kn_17)
    have h_19 : c_12 1 3 = c 1 3 := (hid kn_18)
    have h_20 := ir_41_2 hI
    have kn_21 : Hid (c_2 41 2 = c 41 2) := hF_4 41 2 (fun q => q.elim (fun h => absurd h.1 (nn rfl)) (fun h => absurd h.1 (nn rfl)))
    have kn_22 : Hid (c_12 41 2 = c 41 2) := (hF_14 41 2 qn_53bdb2099).trans (hid kn_21)
    have h_23 : c_12 41 2 = c 41 2 := (hid kn_22)
    have kn_24 : Hid (c_2 P 0 = n0) := (hF_4 P 0 (qn_7ba88e57e hP)).trans (hn0)
    have kn_25 : Hid (c_12 P 0 = n0) := (hF_14 P 0 (qn_857752076 hP)).trans (hid kn_24)
    have h_26 : c_12 P 0 = n0 := (hid kn_25)
    have kn_27 : Hid (c_2 41 20 = n0) := (hF_4 41 20 (fun q => q.elim (fun h => absurd h.1 (nn rfl)) (fun h => absurd h.1 (nn rfl)))).trans (hm0)
    have kn_28 : Hid (c_12 41 20 = n0) := (hF_14 41 20 qn_110b29ed6).trans (hid kn_27)
    have h_29 : c_12 41 20 = n0 := (hid kn_28)
    have kn_30 : Hid (c_2 P 1 = n1) := (hF_4 P 1 (qn_7ba88e57e hP)).trans (hn1)
    have kn_31 : Hid (c_12 P 1 = n1) := (hF_14 P 1 (qn_857752076 hP)).trans (hid kn_30)
    have h_32 : c_12 P 1 = n1 := (hid kn_31)
    have kn_33 : Hid (c_2 41 21 = n1) := (hF_4 41 21 (fun q => q.elim (fun h => absurd h.1 (nn rfl)) (fun h => absurd h.1 (nn rfl)))).trans (hm1)
    have kn_34 : Hid (c_12 41 21 = n1) := (hF_14 41 21 qn_561064c41).trans (hid kn_33)
    have h_35 : c_12 41 21 = n1 := (hid kn_34)
    have kn_36 : Hid (c_2 P 2 = n2) := (hF_4 P 2 (qn_7ba88e57e hP)).trans (hn2)
    have kn_37 : Hid (c_12 P 2 = n2) := (hF_14 P 2 (qn_857752076 hP)).trans (hid kn_36)
    have h_38 : c_12 P 2 = n2 := (hid kn_37)
    have kn_39 : Hid (c_2 41 22 = n2) := (hF_4 41 22 (fun q => q.elim (fun h => absurd h.1 (nn rfl)) (fun h => absurd h.1 (nn rfl)))).trans (hm2)
    have kn_40 : Hid (c_12 41 22 = n2) := (hF_14 41 22 qn_1a460b46b).trans (hid kn_39)
    have h_41 : c_12 41 22 = n2 := (hid kn_40)
    have kn_42 : Hid (c_2 P 3 = n3) := (hF_4 P 3 (qn_7ba88e57e hP)).trans (hn3)
    have kn_43 : Hid (c_12 P 3 = n3) := (hF_14 P 3 (qn_857752076 hP)).trans (hid kn_42)
    have h_44 : c_12 P 3 = n3 := (hid kn_43)
    have kn_45 : Hid (c_2 41 23 = n3) := (hF_4 41 23 (fun q => q.elim (fun h => absurd h.1 (nn rfl)) (fun h => absurd h.1 (nn rfl)))).trans (hm3)
    have kn_46 : Hid (c_12 41 23 = n3) := (hF_14 41 23 qn_b79f282cd).trans (hid kn_45)
    have h_47 : c_12 41 23 = n3 := (hid kn_46)
    have kn_48 : Hid (c_2 3 4 = c 3 4) := hF_4 3 4 (fun q => q.elim (fun h => absurd h.1 (nn rfl)) (fun h => absurd h.1 (nn rfl)))
    have kn_49 : Hid (c_12 3 4 = c 3 4) := (hF_14 3 4 qn_bf2303cc8).trans (hid kn_48)
    have h_50 : c_12 3 4 = c 3 4 := (hid kn_49)
    have h_51 := ir_41_52 hI
    have kn_52 : Hid (c_2 41 52 = c 41 52) := hF_4 41 52 (fun q => q.elim (fun h => absurd h.1 (nn rfl)) (fun h => absurd h.1 (nn rfl)))
    have kn_53 : Hid (c_12 41 52 = c 41 52) := (hF_14 41 52 qn_90835161a).trans (hid kn_52)
    have h_54 : c_12 41 52 = c 41 52 := (hid kn_53)
    have h_55 := ir_3_3 hI
    have kn_56 : Hid (c_2 3 3 = c 3 3) := hF_4 3 3 (fun q => q.elim (fun h => absurd h.1 (nn rfl)) (fun h => absurd h.1 (nn rfl)))
    have kn_57 : Hid (c_12 3 3 = c 3 3) := (hF_14 3 3 qn_bf2303cc8).trans (hid kn_56)
    have h_58 : c_12 3 3 = c 3 3 := (hid kn_57)
    have h_59 := ir_41_35 hI
    have kn_60 : Hid (c_2 41 35 = c 41 35) := hF_4 41 35 (fun q => q.elim (fun h => absurd h.1 (nn rfl)) (fun h => absurd h.1 (nn rfl)))
    have kn_61 : Hid (c_12 41 35 = c 41 35) := (hF_14 41 35 qn_732a91ea5).trans (hid kn_60)
    have h_62 : c_12 41 35 = c 41 35 := (hid kn_61)
    have h_63 : c_12 3 4 = c 3 4 := (hid kn_49)
    exact K P Q c_12 1 (by decide) hI_13 ⟨by omega, ub_fr hU (fun j => (hF_14 2 j qn_2ad67e194).trans (hF_4 2 j (fun q => q.elim (fun h => absurd h.1 (nn rfl)) (fun h => absurd h.1 (nn rfl))))) (fun j => (hF_14 43 j qn_1520ff5e3).trans (hF_4 43 j (fun q => q.elim (fun h => absurd h.1 (nn rfl)) (fun h => absurd h.1 (nn rfl))))), ⟨by omega, by omega, by omega, by omega⟩, by omega, by omega, iw_fr2 hIw (by omega) (fun j => (hF_14 6 j qn_e1050858a).trans (hF_4 6 j (fun q => q.elim (fun h => absurd h.1 (nn rfl)) (fun h => absurd h.1 (nn rfl))))) (fun j => (hF_14 66 j qn_5616dd9ce).trans (hF_4 66 j (fun q => q.elim (fun h => absurd h.1 (nn rfl)) (fun h => absurd h.1 (nn rfl)))))⟩
  · skip
    refine bk_thr (z := Int32.ofInt 2) rfl ⟨_, _, rfl⟩ rfl (bk_inl (q_istore c_296_1563 (Nat.le_of_ble_eq_true rfl) (q_aload_n c_296_1565 rfl (q_aload_n c_296_1566 rfl (q_iload c_296_1567 rfl (q_iconst c_296_1569 (v_iadd (v := (i0 : Int) + 1) c_296_1570 rfl ?_)))))))
    refine v_scr (j := i0 + 1) c_296_1571 (by omega) (by omega) hL hx1 (q_aload_n c_296_1572 rfl (q_iload c_296_1573 rfl (q_iconst c_296_1575 (v_iadd (v := (i0 : Int) + 2) c_296_1576 rfl (v_scr (j := i0 + 2) c_296_1577 (by omega) (by omega) hL hx2 (v_cv c_296_1578 km_9_248 rfl rfl (Nat.le_of_ble_eq_true rfl) ⟨⟨rfl, rfl⟩, Nat.le_of_ble_eq_true rfl, rfl⟩ (Nat.le_of_ble_eq_true rfl) (Nat.le_of_ble_eq_true rfl) (s_251 (a1 := x1) (a2 := x2) hI_6 (show (-2147483648) ≤ x1 ∧ x1 ≤ 2147483647 from ⟨by omega, by omega⟩) (show (-2147483648) ≤ x2 ∧ x2 ≤ 2147483647 from ⟨by omega, by omega⟩) (fun c_64 y_67 hI_65 hF_66 hy_67 => (bk_inl ?_)))))))))
    refine q_istore c_296_1581 (Nat.le_of_ble_eq_true rfl) (q_goto (t := 1816) c_296_1583 rfl (Wp_ls [(4, vi (i0 : Int)), (3, .ref 67), (2, .ref 41), (1, .ref 0), (0, .ref a_SC)] (lsub_cons rfl (lsub_cons rfl (lsub_cons rfl (lsub_cons rfl (lsub_cons rfl lsub_nil))))) ?_))
    have h_68 := ir_1_3 hI
    have kn_69 : Hid (c_5 1 3 = c 1 3) := hF_7 1 3 (fun q => q.elim (fun h => absurd h.1 (nn rfl)) (fun h => absurd h.1 (nn rfl)))
    have kn_70 : Hid (c_64 1 3 = c 1 3) := (hF_66 1 3 qn_39cd18c3e).trans (hid kn_69)
    have h_71 : c_64 1 3 = c 1 3 := (hid kn_70)
    have h_72 := ir_41_2 hI
    have kn_73 : Hid (c_5 41 2 = c 41 2) := hF_7 41 2 (fun q => q.elim (fun h => absurd h.1 (nn rfl)) (fun h => absurd h.1 (nn rfl)))
    have kn_74 : Hid (c_64 41 2 = c 41 2) := (hF_66 41 2 qn_53bdb2099).trans (hid kn_73)
    have h_75 : c_64 41 2 = c 41 2 := (hid kn_74)
    have kn_76 : Hid (c_5 P 0 = n0) := (hF_7 P 0 (qn_7ba88e57e hP)).trans (hn0)
    have kn_77 : Hid (c_64 P 0 = n0) := (hF_66 P 0 (qn_857752076 hP)).trans (hid kn_76)
    have h_78 : c_64 P 0 = n0 := (hid kn_77)
    have kn_79 : Hid (c_5 41 20 = n0) := (hF_7 41 20 (fun q => q.elim (fun h => absurd h.1 (nn rfl)) (fun h => absurd h.1 (nn rfl)))).trans (hm0)
    have kn_80 : Hid (c_64 41 20 = n0) := (hF_66 41 20 qn_110b29ed6).trans (hid kn_79)
    have h_81 : c_64 41 20 = n0 := (hid kn_80)
    have kn_82 : Hid (c_5 P 1 = n1) := (hF_7 P 1 (qn_7ba88e57e hP)).trans (hn1)
    have kn_83 : Hid (c_64 P 1 = n1) := (hF_66 P 1 (qn_857752076 hP)).trans (hid kn_82)
    have h_84 : c_64 P 1 = n1 := (hid kn_83)
    have kn_85 : Hid (c_5 41 21 = n1) := (hF_7 41 21 (fun q => q.elim (fun h => absurd h.1 (nn rfl)) (fun h => absurd h.1 (nn rfl)))).trans (hm1)
    have kn_86 : Hid (c_64 41 21 = n1) := (hF_66 41 21 qn_561064c41).trans (hid kn_85)
    have h_87 : c_64 41 21 = n1 := (hid kn_86)
    have kn_88 : Hid (c_5 P 2 = n2) := (hF_7 P 2 (qn_7ba88e57e hP)).trans (hn2)
    have kn_89 : Hid (c_64 P 2 = n2) := (hF_66 P 2 (qn_857752076 hP)).trans (hid kn_88)
    have h_90 : c_64 P 2 = n2 := (hid kn_89)
    have kn_91 : Hid (c_5 41 22 = n2) := (hF_7 41 22 (fun q => q.elim (fun h => absurd h.1 (nn rfl)) (fun h => absurd h.1 (nn rfl)))).trans (hm2)
    have kn_92 : Hid (c_64 41 22 = n2) := (hF_66 41 22 qn_1a460b46b).trans (hid kn_91)
    have h_93 : c_64 41 22 = n2 := (hid kn_92)
    have kn_94 : Hid (c_5 P 3 = n3) := (hF_7 P 3 (qn_7ba88e57e hP)).trans (hn3)
    have kn_95 : Hid (c_64 P 3 = n3) := (hF_66 P 3 (qn_857752076 hP)).trans (hid kn_94)
    have h_96 : c_64 P 3 = n3 := (hid kn_95)
    have kn_97 : Hid (c_5 41 23 = n3) := (hF_7 41 23 (fun q => q.elim (fun h => absurd h.1 (nn rfl)) (fun h => absurd h.1 (nn rfl)))).trans (hm3)
    have kn_98 : Hid (c_64 41 23 = n3) := (hF_66 41 23 qn_b79f282cd).trans (hid kn_97)
    have h_99 : c_64 41 23 = n3 := (hid kn_98)
    have kn_100 : Hid (c_5 3 4 = c 3 4) := hF_7 3 4 (fun q => q.elim (fun h => absurd h.1 (nn rfl)) (fun h => absurd h.1 (nn rfl)))
    have kn_101 : Hid (c_64 3 4 = c 3 4) := (hF_66 3 4 qn_bf2303cc8).trans (hid kn_100)
    have h_102 : c_64 3 4 = c 3 4 := (hid kn_101)
    have h_103 := ir_41_52 hI
    have kn_104 : Hid (c_5 41 52 = c 41 52) := hF_7 41 52 (fun q => q.elim (fun h => absurd h.1 (nn rfl)) (fun h => absurd h.1 (nn rfl)))
    have kn_105 : Hid (c_64 41 52 = c 41 52) := (hF_66 41 52 qn_90835161a).trans (hid kn_104)
    have h_106 : c_64 41 52 = c 41 52 := (hid kn_105)
    have h_107 := ir_3_3 hI
    have kn_108 : Hid (c_5 3 3 = c 3 3) := hF_7 3 3 (fun q => q.elim (fun h => absurd h.1 (nn rfl)) (fun h => absurd h.1 (nn rfl)))
    have kn_109 : Hid (c_64 3 3 = c 3 3) := (hF_66 3 3 qn_bf2303cc8).trans (hid kn_108)
    have h_110 : c_64 3 3 = c 3 3 := (hid kn_109)
    have h_111 := ir_41_35 hI
    have kn_112 : Hid (c_5 41 35 = c 41 35) := hF_7 41 35 (fun q => q.elim (fun h => absurd h.1 (nn rfl)) (fun h => absurd h.1 (nn rfl)))
    have kn_113 : Hid (c_64 41 35 = c 41 35) := (hF_66 41 35 qn_732a91ea5).trans (hid kn_112)
    have h_114 : c_64 41 35 = c 41 35 := (hid kn_113)
    have h_115 : c_64 3 4 = c 3 4 := (hid kn_101)
    exact K P Q c_64 1 (by decide) hI_65 ⟨by omega, ub_fr hU (fun j => (hF_66 2 j qn_2ad67e194).trans (hF_7 2 j (fun q => q.elim (fun h => absurd h.1 (nn rfl)) (fun h => absurd h.1 (nn rfl))))) (fun j => (hF_66 43 j qn_1520ff5e3).trans (hF_7 43 j (fun q => q.elim (fun h => absurd h.1 (nn rfl)) (fun h => absurd h.1 (nn rfl))))), ⟨by omega, by omega, by omega, by omega⟩, by omega, by omega, iw_fr2 hIw (by omega) (fun j => (hF_66 6 j qn_e1050858a).trans (hF_7 6 j (fun q => q.elim (fun h => absurd h.1 (nn rfl)) (fun h => absurd h.1 (nn rfl))))) (fun j => (hF_66 66 j qn_5616dd9ce).trans (hF_7 66 j (fun q => q.elim (fun h => absurd h.1 (nn rfl)) (fun h => absurd h.1 (nn rfl)))))⟩
  refine bk_inl (v_i2l c_293_8 (by omega) (v_ls c_293_9 rfl (by decide) (by decide) (by decide) (q_goto (t := 21) c_293_10 rfl (q_iconst c_293_21 (q_iret c_293_22 rfl (bk_inl (q_istore c_296_1563 (Nat.le_of_ble_eq_true rfl) ?_)))))))
  refine q_aload_n c_296_1565 rfl (q_aload_n c_296_1566 rfl (q_iload c_296_1567 rfl (q_iconst c_296_1569 (v_iadd (v := (i0 : Int) + 1) c_296_1570 rfl (v_scr (j := i0 + 1) c_296_1571 (by omega) (by omega) hL hx1 (q_aload_n c_296_1572 rfl (q_iload c_296_1573 rfl ?_)))))))
  refine q_iconst c_296_1575 (v_iadd (v := (i0 : Int) + 2) c_296_1576 rfl (v_scr (j := i0 + 2) c_296_1577 (by omega) (by omega) hL hx2 ?_))
  have hI_116 := iw_lx (a := 67) (j := 0) (v := y_11) hI_9 (by omega)
  refine v_cv c_296_1578 km_9_248 rfl rfl (Nat.le_of_ble_eq_true rfl) ⟨⟨rfl, rfl⟩, Nat.le_of_ble_eq_true rfl, rfl⟩ (Nat.le_of_ble_eq_true rfl) (Nat.le_of_ble_eq_true rfl) (s_251 (a1 := x1) (a2 := x2) hI_116 (show (-2147483648) ≤ x1 ∧ x1 ≤ 2147483647 from ⟨by omega, by omega⟩) (show (-2147483648) ≤ x2 ∧ x2 ≤ 2147483647 from ⟨by omega, by omega⟩) (fun c_117 y_120 hI_118 hF_119 hy_120 => (bk_inl (q_istore c_296_1581 (Nat.le_of_ble_eq_true rfl) (q_goto (t := 1816) c_296_1583 rfl (Wp_ls [(4, vi (i0 : Int)), (3, .ref 67), (2, .ref 41), (1, .ref 0), (0, .ref a_SC)] (lsub_cons rfl (lsub_cons rfl (lsub_cons rfl (lsub_cons rfl (lsub_cons rfl lsub_nil))))) ?_))))))
  have h_121 := ir_1_3 hI
  have kn_122 : Hid (c_8 1 3 = c 1 3) := hF_10 1 3 (fun q => q.elim (fun h => absurd h.1 (nn rfl)) (fun h => absurd h.1 (nn rfl)))
  have kn_123 : Hid (c_117 1 3 = c 1 3) := (hF_119 1 3 qn_39cd18c3e).trans ((up_c (nn rfl)).trans (hid kn_122))
  have h_124 : c_117 1 3 = c 1 3 := (hid kn_123)
  have h_125 := ir_41_2 hI
  have kn_126 : Hid (c_8 41 2 = c 41 2) := hF_10 41 2 (fun q => q.elim (fun h => absurd h.1 (nn rfl)) (fun h => absurd h.1 (nn rfl)))
  have kn_127 : Hid (c_117 41 2 = c 41 2) := (hF_119 41 2 qn_53bdb2099).trans ((up_c (nn rfl)).trans (hid kn_126))
  have h_128 : c_117 41 2 = c 41 2 := (hid kn_127)
  have kn_129 : Hid (c_8 P 0 = n0) := (hF_10 P 0 (qn_7ba88e57e hP)).trans (hn0)
  have kn_130 : Hid (c_117 P 0 = n0) := (hF_119 P 0 (qn_857752076 hP)).trans ((up_c (np0 hP rfl)).trans (hid kn_129))
  have h_131 : c_117 P 0 = n0 := (hid kn_130)
  have kn_132 : Hid (c_8 41 20 = n0) := (hF_10 41 20 (fun q => q.elim (fun h => absurd h.1 (nn rfl)) (fun h => absurd h.1 (nn rfl)))).trans (hm0)
  have kn_133 : Hid (c_117 41 20 = n0) := (hF_119 41 20 qn_110b29ed6).trans ((up_c (nn rfl)).trans (hid kn_132))
  have h_134 : c_117 41 20 = n0 := (hid kn_133)
  have kn_135 : Hid (c_8 P 1 = n1) := (hF_10 P 1 (qn_7ba88e57e hP)).trans (hn1)
  have kn_136 : Hid (c_117 P 1 = n1) := (hF_119 P 1 (qn_857752076 hP)).trans ((up_c (np0 hP rfl)).trans (hid kn_135))
  have h_137 : c_117 P 1 = n1 := (hid kn_136)
  have kn_138 : Hid (c_8 41 21 = n1) := (hF_10 41 21 (fun q => q.elim (fun h => absurd h.1 (nn rfl)) (fun h => absurd h.1 (nn rfl)))).trans (hm1)
  have kn_139 : Hid (c_117 41 21 = n1) := (hF_119 41 21 qn_561064c41).trans ((up_c (nn rfl)).trans (hid kn_138))
  have h_140 : c_117 41 21 = n1 := (hid kn_139)
  have kn_141 : Hid (c_8 P 2 = n2) := (hF_10 P 2 (qn_7ba88e57e hP)).trans (hn2)
  have kn_142 : Hid (c_117 P 2 = n2) := (hF_119 P 2 (qn_857752076 hP)).trans ((up_c (np0 hP rfl)).trans (hid kn_141))
  have h_143 : c_117 P 2 = n2 := (hid kn_142)
  have kn_144 : Hid (c_8 41 22 = n2) := (hF_10 41 22 (fun q => q.elim (fun h => absurd h.1 (nn rfl)) (fun h => absurd h.1 (nn rfl)))).trans (hm2)
  have kn_145 : Hid (c_117 41 22 = n2) := (hF_119 41 22 qn_1a460b46b).trans ((up_c (nn rfl)).trans (hid kn_144))
  have h_146 : c_117 41 22 = n2 := (hid kn_145)
  have kn_147 : Hid (c_8 P 3 = n3) := (hF_10 P 3 (qn_7ba88e57e hP)).trans (hn3)
  have kn_148 : Hid (c_117 P 3 = n3) := (hF_119 P 3 (qn_857752076 hP)).trans ((up_c (np0 hP rfl)).trans (hid kn_147))
  have h_149 : c_117 P 3 = n3 := (hid kn_148)
  have kn_150 : Hid (c_8 41 23 = n3) := (hF_10 41 23 (fun q => q.elim (fun h => absurd h.1 (nn rfl)) (fun h => absurd h.1 (nn rfl)))).trans (hm3)
  have kn_151 : Hid (c_117 41 23 = n3) := (hF_119 41 23 qn_b79f282cd).trans ((up_c (nn rfl)).trans (hid kn_150))
  have h_152 : c_117 41 23 = n3 := (hid kn_151)
  have kn_153 : Hid (c_8 3 4 = c 3 4) := hF_10 3 4 (fun q => q.elim (fun h => absurd h.1 (nn rfl)) (fun h => absurd h.1 (nn rfl)))
  have kn_154 : Hid (c_117 3 4 = c 3 4) := (hF_119 3 4 qn_bf2303cc8).trans ((up_c (nn rfl)).trans (hid kn_153))
  have h_155 : c_117 3 4 = c 3 4 := (hid kn_154)
  have h_156 := ir_41_52 hI
  have kn_157 : Hid (c_8 41 52 = c 41 52) := hF_10 41 52 (fun q => q.elim (fun h => absurd h.1 (nn rfl)) (fun h => absurd h.1 (nn rfl)))
  have kn_158 : Hid (c_117 41 52 = c 41 52) := (hF_119 41 52 qn_90835161a).trans ((up_c (nn rfl)).trans (hid kn_157))
  have h_159 : c_117 41 52 = c 41 52 := (hid kn_158)
  have h_160 := ir_3_3 hI
  have kn_161 : Hid (c_8 3 3 = c 3 3) := hF_10 3 3 (fun q => q.elim (fun h => absurd h.1 (nn rfl)) (fun h => absurd h.1 (nn rfl)))
  have kn_162 : Hid (c_117 3 3 = c 3 3) := (hF_119 3 3 qn_bf2303cc8).trans ((up_c (nn rfl)).trans (hid kn_161))
  have h_163 : c_117 3 3 = c 3 3 := (hid kn_162)
  have h_164 := ir_41_35 hI
  have kn_165 : Hid (c_8 41 35 = c 41 35) := hF_10 41 35 (fun q => q.elim (fun h => absurd h.1 (nn rfl)) (fun h => absurd h.1 (nn rfl)))
  have kn_166 : Hid (c_117 41 35 = c 41 35) := (hF_119 41 35 qn_732a91ea5).trans ((up_c (nn rfl)).trans (hid kn_165))
  have h_167 : c_117 41 35 = c 41 35 := (hid kn_166)
  have h_168 : c_117 3 4 = c 3 4 := (hid kn_154)
  exact K P Q c_117 0 (by decide) hI_118 ⟨by omega, ub_fr hU (fun j => (hF_119 2 j qn_2ad67e194).trans ((up_c (nn rfl)).trans (hF_10 2 j (fun q => q.elim (fun h => absurd h.1 (nn rfl)) (fun h => absurd h.1 (nn rfl)))))) (fun j => (hF_119 43 j qn_1520ff5e3).trans ((up_c (nn rfl)).trans (hF_10 43 j (fun q => q.elim (fun h => absurd h.1 (nn rfl)) (fun h => absurd h.1 (nn rfl)))))), ⟨by omega, by omega, by omega, by omega⟩, by omega, by omega, iw_fr2 hIw (by omega) (fun j => (hF_119 6 j qn_e1050858a).trans ((up_c (nn rfl)).trans (hF_10 6 j (fun q => q.elim (fun h => absurd h.1 (nn rfl)) (fun h => absurd h.1 (nn rfl)))))) (fun j => (hF_119 66 j qn_5616dd9ce).trans ((up_c (nn rfl)).trans (hF_10 66 j (fun q => q.elim (fun h => absurd h.1 (nn rfl)) (fun h => absurd h.1 (nn rfl))))))⟩

set_option maxRecDepth 100000 in
set_option maxHeartbeats 4000000 in
theorem o_37 {xs : Nat → Int32} {L i0 d nc ns P Q : Nat} {c : ME} {Z : AR → Prop} (hi : i0 + 8 ≤ L) (hL : L ≤ 100000) (hI : Iv 0 (-1) P Q c) (hR : Rq P c) (K : ∀ (P2 Q2 : Nat) (c2 : ME) (e : Nat), e ≤ 1 → Iv 0 (-1) P2 Q2 c2 → (Rq P2 c2) → Wp (a_scr L xs) (d + 90) 296 1816 [(4, vi (i0 : Int)), (3, .ref 67), (2, .ref 41), (1, .ref 0), (0, .ref a_SC)] [] (Wd P2 Q2 P2 P2 c2) (nc + e) (ns + 6 * e) Z) : Wp (a_scr L xs) (d + 90) 296 1586 [(4, vi (i0 : Int)), (3, .ref 67), (2, .ref 41), (1, .ref 0), (0, .ref a_SC)] [] (Wd P Q P P c) nc ns Z := by
  obtain ⟨x1, hx1⟩ : ∃ z, (xs (i0 + 1)).toInt = z := ⟨_, rfl⟩
  have x1r := c_rng (xs (i0 + 1))
  rw [hx1] at x1r
  obtain ⟨x2, hx2⟩ : ∃ z, (xs (i0 + 2)).toInt = z := ⟨_, rfl⟩
  have x2r := c_rng (xs (i0 + 2))
  rw [hx2] at x2r
  obtain ⟨x3, hx3⟩ : ∃ z, (xs (i0 + 3)).toInt = z := ⟨_, rfl⟩
  have x3r := c_rng (xs (i0 + 3))
  rw [hx3] at x3r
  obtain ⟨x4, hx4⟩ : ∃ z, (xs (i0 + 4)).toInt = z := ⟨_, rfl⟩
  have x4r := c_rng (xs (i0 + 4))
  rw [hx4] at x4r
  obtain ⟨x5, hx5⟩ : ∃ z, (xs (i0 + 5)).toInt = z := ⟨_, rfl⟩
  have x5r := c_rng (xs (i0 + 5))
  rw [hx5] at x5r
  obtain ⟨x6, hx6⟩ : ∃ z, (xs (i0 + 6)).toInt = z := ⟨_, rfl⟩
  have x6r := c_rng (xs (i0 + 6))
  rw [hx6] at x6r
  obtain ⟨x7, hx7⟩ : ∃ z, (xs (i0 + 7)).toInt = z := ⟨_, rfl⟩
  have x7r := c_rng (xs (i0 + 7))
  rw [hx7] at x7r
  have hP := iv_P hI
  have hQ := iv_Q hI
  have hT := rl_t hR
  have hU := rl_u hR
  obtain ⟨n0, hn0⟩ : ∃ z, c P 0 = z := ⟨_, rfl⟩
  have hm0 : c 41 20 = n0 := (rl_nums hR).1.symm.trans hn0
  have hr0 := ir_p0_0 hI hP
  rw [hn0] at hr0
  obtain ⟨n1, hn1⟩ : ∃ z, c P 1 = z := ⟨_, rfl⟩
  have hm1 : c 41 21 = n1 := (rl_nums hR).2.1.symm.trans hn1
  have hr1 := ir_p0_1 hI hP
  rw [hn1] at hr1
  obtain ⟨n2, hn2⟩ : ∃ z, c P 2 = z := ⟨_, rfl⟩
  have hm2 : c 41 22 = n2 := (rl_nums hR).2.2.1.symm.trans hn2
  have hr2 := ir_p0_2 hI hP
  rw [hn2] at hr2
  obtain ⟨n3, hn3⟩ : ∃ z, c P 3 = z := ⟨_, rfl⟩
  have hm3 : c 41 23 = n3 := (rl_nums hR).2.2.2.symm.trans hn3
  have hr3 := ir_p0_3 hI hP
  rw [hn3] at hr3
  have hNimg := rl_img hR
  have hNwk := rl_wk hR
  have h_1 := ir_3_4 hI
  have hIw := rl_iw hR
  refine q_aload_n c_296_1586 rfl (q_aload_n c_296_1587 rfl (q_iload c_296_1588 rfl (q_iconst c_296_1590 (v_iadd (v := (i0 : Int) + 1) c_296_1591 rfl (v_scr (j := i0 + 1) c_296_1592 (by omega) (by omega) hL hx1 (q_aload_n c_296_1593 rfl (q_iload c_296_1594 rfl ?_)))))))
  refine q_iconst c_296_1596 (v_iadd (v := (i0 : Int) + 2) c_296_1597 rfl (v_scr (j := i0 + 2) c_296_1598 (by omega) (by omega) hL hx2 (q_aload_n c_296_1599 rfl (q_iload c_296_1600 rfl (q_iconst c_296_1602 (v_iadd (v := (i0 : Int) + 3) c_296_1603 rfl (v_scr (j := i0 + 3) c_296_1604 (by omega) (by omega) hL hx3 ?_)))))))
  refine q_aload_n c_296_1605 rfl (q_iload c_296_1606 rfl (q_iconst c_296_1608 (v_iadd (v := (i0 : Int) + 4) c_296_1609 rfl (v_scr (j := i0 + 4) c_296_1610 (by omega) (by omega) hL hx4 (q_aload_n c_296_1611 rfl (q_call c_296_1612 rfl rfl rfl (q_aload c_294_0 rfl ?_)))))))
  refine q_iconst c_294_2 (q_aload_n c_294_3 rfl (q_iload_n c_294_4 rfl (q_iload_n c_294_5 rfl (q_iload_n c_294_6 rfl (q_iload c_294_7 rfl ?_)))))
  refine v_cv c_294_9 km_9_111 rfl rfl (Nat.le_of_ble_eq_true rfl) ⟨⟨rfl, rfl⟩, Nat.le_of_ble_eq_true rfl, rfl⟩ (Nat.le_of_ble_eq_true rfl) (Nat.le_of_ble_eq_true rfl) (s_137 (a1 := x1) (a2 := x2) (a3 := x3) (a4 := x4) hI (show (-2147483648) ≤ x1 ∧ x1 ≤ 2147483647 from ⟨by omega, by omega⟩) (show (-2147483648) ≤ x2 ∧ x2 ≤ 2147483647 from ⟨by omega, by omega⟩) (show (-2147483648) ≤ x3 ∧ x3 ≤ 2147483647 from ⟨by omega, by omega⟩) (show (-2147483648) ≤ x4 ∧ x4 ≤ 2147483647 from ⟨by omega, by omega⟩) (fun c_2 hI_3 hF_4 => ?_) (fun c_5 y_8 hI_6 hF_7 hy_8 => ?_))
  · skip
    refine bk_thr (z := Int32.ofInt 1) rfl ⟨_, _, rfl⟩ rfl (bk_inl (q_istore c_296_1615 (Nat.le_of_ble_eq_true rfl) (q_aload_n c_296_1617 rfl (q_aload_n c_296_1618 rfl (q_iload c_296_1619 rfl (q_iconst c_296_1621 (v_iadd (v := (i0 : Int) + 1) c_296_1622 rfl ?_)))))))
    refine v_scr (j := i0 + 1) c_296_1623 (by omega) (by omega) hL hx1 (q_aload_n c_296_1624 rfl (q_iload c_296_1625 rfl (q_iconst c_296_1627 (v_iadd (v := (i0 : Int) + 2) c_296_1628 rfl (v_scr (j := i0 + 2) c_296_1629 (by omega) (by omega) hL hx2 (q_aload_n c_296_1630 rfl (q_iload c_296_1631 rfl ?_)))))))
    refine q_iconst c_296_1633 (v_iadd (v := (i0 : Int) + 3) c_296_1634 rfl (v_scr (j := i0 + 3) c_296_1635 (by omega) (by omega) hL hx3 (q_aload_n c_296_1636 rfl (q_iload c_296_1637 rfl (q_iconst c_296_1639 (v_iadd (v := (i0 : Int) + 4) c_296_1640 rfl (v_scr (j := i0 + 4) c_296_1641 (by omega) (by omega) hL hx4 ?_)))))))
    refine v_cv c_296_1642 km_9_251 rfl rfl (Nat.le_of_ble_eq_true rfl) ⟨⟨rfl, rfl⟩, Nat.le_of_ble_eq_true rfl, rfl⟩ (Nat.le_of_ble_eq_true rfl) (Nat.le_of_ble_eq_true rfl) (s_255 (a1 := x1) (a2 := x2) (a3 := x3) (a4 := x4) hI_3 (show (-2147483648) ≤ x1 ∧ x1 ≤ 2147483647 from ⟨by omega, by omega⟩) (show (-2147483648) ≤ x2 ∧ x2 ≤ 2147483647 from ⟨by omega, by omega⟩) (show (-2147483648) ≤ x3 ∧ x3 ≤ 2147483647 from ⟨by omega, by omega⟩) (show (-2147483648) ≤ x4 ∧ x4 ≤ 2147483647 from ⟨by omega, by omega⟩) (fun c_9 y_12 hI_10 hF_11 hy_12 => (bk_inl (q_istore c_296_1645 (Nat.le_of_ble_eq_true rfl) (q_goto (t := 1816) c_296_1647 rfl (Wp_ls [(4, vi (i0 : Int)), (3, .ref 67), (2, .ref 41), (1, .ref 0), (0, .ref a_SC)] (lsub_cons rfl (lsub_cons rfl (lsub_cons rfl (lsub_cons rfl (lsub_cons rfl lsub_nil))))) ?_))))))
    have h_13 := ir_1_3 hI
    have kn_14 : Hid (c_2 1 3 = c 1 3) := hF_4 1 3 (qn_cc1064621 hP)
    have kn_15 : Hid (c_9 1 3 = c 1 3) := (hF_11 1 3 qn_9d94bd60f).trans (hid kn_14)
    have h_16 : c_9 1 3 = c 1 3 := (hid kn_15)
    have h_17 := ir_41_2 hI
    have kn_18 : Hid (c_2 41 2 = c 41 2) := hF_4 41 2 (qn_55346d250 hP)
    have kn_19 : Hid (c_9 41 2 = c 41 2) := (hF_11 41 2 qn_9f4d5821f).trans (hid kn_18)
    have h_20 : c_9 41 2 = c 41 2 := (hid kn_19)
    have kn_21 : Hid (c_2 P 0 = n0) := (hF_4 P 0 (qn_1a125c37c hP)).trans (hn0)
    have kn_22 : Hid (c_9 P 0 = n0) := (hF_11 P 0 (qn_3dda11c13 hP)).trans (hid kn_21)
    have h_23 : c_9 P 0 = n0 := (hid kn_22)
    have kn_24 : Hid (c_2 41 20 = n0) := (hF_4 41 20 (qn_55346d250 hP)).trans (hm0)
    have kn_25 : Hid (c_9 41 20 = n0) := (hF_11 41 20 qn_de1d671ad).trans (hid kn_24)
    have h_26 : c_9 41 20 = n0 := (hid kn_25)
    have kn_27 : Hid (c_2 P 1 = n1) := (hF_4 P 1 (qn_1a125c37c hP)).trans (hn1)
    have kn_28 : Hid (c_9 P 1 = n1) := (hF_11 P 1 (qn_3dda11c13 hP)).trans (hid kn_27)
    have h_29 : c_9 P 1 = n1 := (hid kn_28)
    have kn_30 : Hid (c_2 41 21 = n1) := (hF_4 41 21 (qn_55346d250 hP)).trans (hm1)
    have kn_31 : Hid (c_9 41 21 = n1) := (hF_11 41 21 qn_b0c4591b1).trans (hid kn_30)
    have h_32 : c_9 41 21 = n1 := (hid kn_31)
    have kn_33 : Hid (c_2 P 2 = n2) := (hF_4 P 2 (qn_1a125c37c hP)).trans (hn2)
    have kn_34 : Hid (c_9 P 2 = n2) := (hF_11 P 2 (qn_3dda11c13 hP)).trans (hid kn_33)
    have h_35 : c_9 P 2 = n2 := (hid kn_34)
    have kn_36 : Hid (c_2 41 22 = n2) := (hF_4 41 22 (qn_55346d250 hP)).trans (hm2)
    have kn_37 : Hid (c_9 41 22 = n2) := (hF_11 41 22 qn_00a455246).trans (hid kn_36)
    have h_38 : c_9 41 22 = n2 := (hid kn_37)
    have kn_39 : Hid (c_2 P 3 = n3) := (hF_4 P 3 (qn_1a125c37c hP)).trans (hn3)
    have kn_40 : Hid (c_9 P 3 = n3) := (hF_11 P 3 (qn_3dda11c13 hP)).trans (hid kn_39)
    have h_41 : c_9 P 3 = n3 := (hid kn_40)
    have kn_42 : Hid (c_2 41 23 = n3) := (hF_4 41 23 (qn_55346d250 hP)).trans (hm3)
    have kn_43 : Hid (c_9 41 23 = n3) := (hF_11 41 23 qn_375070522).trans (hid kn_42)
    have h_44 : c_9 41 23 = n3 := (hid kn_43)
    have kn_45 : Hid (c_2 3 4 = c 3 4) := hF_4 3 4 (qn_8703343bc hP)
    have kn_46 : Hid (c_9 3 4 = c 3 4) := (hF_11 3 4 qn_51e0e9667).trans (hid kn_45)
    have h_47 : c_9 3 4 = c 3 4 := (hid kn_46)
    have h_48 := ir_41_52 hI
    have kn_49 : Hid (c_2 41 52 = c 41 52) := hF_4 41 52 (qn_55346d250 hP)
    have kn_50 : Hid (c_9 41 52 = c 41 52) := (hF_11 41 52 qn_5c50dd497).trans (hid kn_49)
    have h_51 : c_9 41 52 = c 41 52 := (hid kn_50)
    have h_52 := ir_3_3 hI
    have kn_53 : Hid (c_2 3 3 = c 3 3) := hF_4 3 3 (qn_8703343bc hP)
    have kn_54 : Hid (c_9 3 3 = c 3 3) := (hF_11 3 3 qn_51e0e9667).trans (hid kn_53)
    have h_55 : c_9 3 3 = c 3 3 := (hid kn_54)
    have h_56 := ir_41_35 hI
    have kn_57 : Hid (c_2 41 35 = c 41 35) := hF_4 41 35 (qn_55346d250 hP)
    have kn_58 : Hid (c_9 41 35 = c 41 35) := (hF_11 41 35 qn_e74909efc).trans (hid kn_57)
    have h_59 : c_9 41 35 = c 41 35 := (hid kn_58)
    have h_60 : c_9 3 4 = c 3 4 := (hid kn_46)
    exact K P Q c_9 1 (by decide) hI_10 ⟨by omega, ub_fr hU (fun j => (hF_11 2 j qn_ea1d8203a).trans (hF_4 2 j (qn_11c530ba0 hP))) (fun j => (hF_11 43 j qn_921fc31f7).trans (hF_4 43 j (qn_ce891e06c hP))), ⟨by omega, by omega, by omega, by omega⟩, by omega, by omega, iw_fr2 hIw (by omega) (fun j => (hF_11 6 j qn_9f1fcb8f5).trans (hF_4 6 j (qn_33622cbee hP))) (fun j => (hF_11 66 j qn_819b02093).trans (hF_4 66 j (qn_7036d22af hP)))⟩
  refine bk_inl (v_i2l c_294_12 (by omega) (v_ls c_294_13 rfl (by decide) (by decide) (by decide) (q_goto (t := 21) c_294_14 rfl (q_iconst c_294_21 (q_iret c_294_22 rfl (bk_inl (q_istore c_296_1615 (Nat.le_of_ble_eq_true rfl) ?_)))))))
  refine q_aload_n c_296_1617 rfl (q_aload_n c_296_1618 rfl (q_iload c_296_1619 rfl (q_iconst c_296_1621 (v_iadd (v := (i0 : Int) + 1) c_296_1622 rfl (v_scr (j := i0 + 1) c_296_1623 (by omega) (by omega) hL hx1 (q_aload_n c_296_1624 rfl (q_iload c_296_1625 rfl ?_)))))))
  refine q_iconst c_296_1627 (v_iadd (v := (i0 : Int) + 2) c_296_1628 rfl (v_scr (j := i0 + 2) c_296_1629 (by omega) (by omega) hL hx2 (q_aload_n c_296_1630 rfl (q_iload c_296_1631 rfl (q_iconst c_296_1633 (v_iadd (v := (i0 : Int) + 3) c_296_1634 rfl (v_scr (j := i0 + 3) c_296_1635 (by omega) (by omega) hL hx3 ?_)))))))
  refine q_aload_n c_296_1636 rfl (q_iload c_296_1637 rfl (q_iconst c_296_1639 (v_iadd (v := (i0 : Int) + 4) c_296_1640 rfl (v_scr (j := i0 + 4) c_296_1641 (by omega) (by omega) hL hx4 ?_))))
  have hI_61 := iw_lx (a := 67) (j := 0) (v := y_8) hI_6 (by omega)
  refine v_cv c_296_1642 km_9_251 rfl rfl (Nat.le_of_ble_eq_true rfl) ⟨⟨rfl, rfl⟩, Nat.le_of_ble_eq_true rfl, rfl⟩ (Nat.le_of_ble_eq_true rfl) (Nat.le_of_ble_eq_true rfl) (s_255 (a1 := x1) (a2 := x2) (a3 := x3) (a4 := x4) hI_61 (show (-2147483648) ≤ x1 ∧ x1 ≤ 2147483647 from ⟨by omega, by omega⟩) (show (-2147483648) ≤ x2 ∧ x2 ≤ 2147483647 from ⟨by omega, by omega⟩) (show (-2147483648) ≤ x3 ∧ x3 ≤ 2147483647 from ⟨by omega, by omega⟩) (show (-2147483648) ≤ x4 ∧ x4 ≤ 2147483647 from ⟨by omega, by omega⟩) (fun c_62 y_65 hI_63 hF_64 hy_65 => (bk_inl (q_istore c_296_1645 (Nat.le_of_ble_eq_true rfl) (q_goto (t := 1816) c_296_1647 rfl (Wp_ls [(4, vi (i0 : Int)), (3, .ref 67), (2, .ref 41), (1, .ref 0), (0, .ref a_SC)] (lsub_cons rfl (lsub_cons rfl (lsub_cons rfl (lsub_cons rfl (lsub_cons rfl lsub_nil))))) ?_))))))
  have h_66 := ir_1_3 hI
  have kn_67 : Hid (c_5 1 3 = c 1 3) := hF_7 1 3 (qn_cc1064621 hP)
  have kn_68 : Hid (c_62 1 3 = c 1 3) := (hF_64 1 3 qn_9d94bd60f).trans ((up_c (nn rfl)).trans (hid kn_67))
  have h_69 : c_62 1 3 = c 1 3 := (hid kn_68)
  have h_70 := ir_41_2 hI
  have kn_71 : Hid (c_5 41 2 = c 41 2) := hF_7 41 2 (qn_55346d250 hP)
  have kn_72 : Hid (c_62 41 2 = c 41 2) := (hF_64 41 2 qn_9f4d5821f).trans ((up_c (nn rfl)).trans (hid kn_71))
  have h_73 : c_62 41 2 = c 41 2 := (hid kn_72)
  have kn_74 : Hid (c_5 P 0 = n0) := (hF_7 P 0 (qn_1a125c37c hP)).trans (hn0)
  have kn_75 : Hid (c_62 P 0 = n0) := (hF_64 P 0 (qn_3dda11c13 hP)).trans ((up_c (np0 hP rfl)).trans (hid kn_74))
  have h_76 : c_62 P 0 = n0 := (hid kn_75)
  have kn_77 : Hid (c_5 41 20 = n0) := (hF_7 41 20 (qn_55346d250 hP)).trans (hm0)
  have kn_78 : Hid (c_62 41 20 = n0) := (hF_64 41 20 qn_de1d671ad).trans ((up_c (nn rfl)).trans (hid kn_77))
  have h_79 : c_62 41 20 = n0 := (hid kn_78)
  have kn_80 : Hid (c_5 P 1 = n1) := (hF_7 P 1 (qn_1a125c37c hP)).trans (hn1)
  have kn_81 : Hid (c_62 P 1 = n1) := (hF_64 P 1 (qn_3dda11c13 hP)).trans ((up_c (np0 hP rfl)).trans (hid kn_80))
  have h_82 : c_62 P 1 = n1 := (hid kn_81)
  have kn_83 : Hid (c_5 41 21 = n1) := (hF_7 41 21 (qn_55346d250 hP)).trans (hm1)
  have kn_84 : Hid (c_62 41 21 = n1) := (hF_64 41 21 qn_b0c4591b1).trans ((up_c (nn rfl)).trans (hid kn_83))
  have h_85 : c_62 41 21 = n1 := (hid kn_84)
  have kn_86 : Hid (c_5 P 2 = n2) := (hF_7 P 2 (qn_1a125c37c hP)).trans (hn2)
  have kn_87 : Hid (c_62 P 2 = n2) := (hF_64 P 2 (qn_3dda11c13 hP)).trans ((up_c (np0 hP rfl)).trans (hid kn_86))
  have h_88 : c_62 P 2 = n2 := (hid kn_87)
  have kn_89 : Hid (c_5 41 22 = n2) := (hF_7 41 22 (qn_55346d250 hP)).trans (hm2)
  have kn_90 : Hid (c_62 41 22 = n2) := (hF_64 41 22 qn_00a455246).trans ((up_c (nn rfl)).trans (hid kn_89))
  have h_91 : c_62 41 22 = n2 := (hid kn_90)
  have kn_92 : Hid (c_5 P 3 = n3) := (hF_7 P 3 (qn_1a125c37c hP)).trans (hn3)
  have kn_93 : Hid (c_62 P 3 = n3) := (hF_64 P 3 (qn_3dda11c13 hP)).trans ((up_c (np0 hP rfl)).trans (hid kn_92))
  have h_94 : c_62 P 3 = n3 := (hid kn_93)
  have kn_95 : Hid (c_5 41 23 = n3) := (hF_7 41 23 (qn_55346d250 hP)).trans (hm3)
  have kn_96 : Hid (c_62 41 23 = n3) := (hF_64 41 23 qn_375070522).trans ((up_c (nn rfl)).trans (hid kn_95))
  have h_97 : c_62 41 23 = n3 := (hid kn_96)
  have kn_98 : Hid (c_5 3 4 = c 3 4) := hF_7 3 4 (qn_8703343bc hP)
  have kn_99 : Hid (c_62 3 4 = c 3 4) := (hF_64 3 4 qn_51e0e9667).trans ((up_c (nn rfl)).trans (hid kn_98))
  have h_100 : c_62 3 4 = c 3 4 := (hid kn_99)
  have h_101 := ir_41_52 hI
  have kn_102 : Hid (c_5 41 52 = c 41 52) := hF_7 41 52 (qn_55346d250 hP)
  have kn_103 : Hid (c_62 41 52 = c 41 52) := (hF_64 41 52 qn_5c50dd497).trans ((up_c (nn rfl)).trans (hid kn_102))
  have h_104 : c_62 41 52 = c 41 52 := (hid kn_103)
  have h_105 := ir_3_3 hI
  have kn_106 : Hid (c_5 3 3 = c 3 3) := hF_7 3 3 (qn_8703343bc hP)
  have kn_107 : Hid (c_62 3 3 = c 3 3) := (hF_64 3 3 qn_51e0e9667).trans ((up_c (nn rfl)).trans (hid kn_106))
  have h_108 : c_62 3 3 = c 3 3 := (hid kn_107)
  have h_109 := ir_41_35 hI
  have kn_110 : Hid (c_5 41 35 = c 41 35) := hF_7 41 35 (qn_55346d250 hP)
  have kn_111 : Hid (c_62 41 35 = c 41 35) := (hF_64 41 35 qn_e74909efc).trans ((up_c (nn rfl)).trans (hid kn_110))
  have h_112 : c_62 41 35 = c 41 35 := (hid kn_111)
  have h_113 : c_62 3 4 = c 3 4 := (hid kn_99)
  exact K P Q c_62 0 (by decide) hI_63 ⟨by omega, ub_fr hU (fun j => (hF_64 2 j qn_ea1d8203a).trans ((up_c (nn rfl)).trans (hF_7 2 j (qn_11c530ba0 hP)))) (fun j => (hF_64 43 j qn_921fc31f7).trans ((up_c (nn rfl)).trans (hF_7 43 j (qn_ce891e06c hP)))), ⟨by omega, by omega, by omega, by omega⟩, by omega, by omega, iw_fr2 hIw (by omega) (fun j => (hF_64 6 j qn_9f1fcb8f5).trans ((up_c (nn rfl)).trans (hF_7 6 j (qn_33622cbee hP)))) (fun j => (hF_64 66 j qn_819b02093).trans ((up_c (nn rfl)).trans (hF_7 66 j (qn_7036d22af hP))))⟩

set_option maxRecDepth 100000 in
set_option maxHeartbeats 4000000 in
theorem o_38 {xs : Nat → Int32} {L i0 d nc ns P Q : Nat} {c : ME} {Z : AR → Prop} (hi : i0 + 8 ≤ L) (hL : L ≤ 100000) (hI : Iv 0 (-1) P Q c) (hR : Rq P c) (K : ∀ (P2 Q2 : Nat) (c2 : ME) (e : Nat), e ≤ 1 → Iv 0 (-1) P2 Q2 c2 → (Rq P2 c2) → Wp (a_scr L xs) (d + 90) 296 1816 [(4, vi (i0 : Int)), (3, .ref 67), (2, .ref 41), (1, .ref 0), (0, .ref a_SC)] [] (Wd P2 Q2 P2 P2 c2) (nc + e) (ns + 6 * e) Z) : Wp (a_scr L xs) (d + 90) 296 1650 [(4, vi (i0 : Int)), (3, .ref 67), (2, .ref 41), (1, .ref 0), (0, .ref a_SC)] [] (Wd P Q P P c) nc ns Z := by
  obtain ⟨x1, hx1⟩ : ∃ z, (xs (i0 + 1)).toInt = z := ⟨_, rfl⟩
  have x1r := c_rng (xs (i0 + 1))
  rw [hx1] at x1r
  obtain ⟨x2, hx2⟩ : ∃ z, (xs (i0 + 2)).toInt = z := ⟨_, rfl⟩
  have x2r := c_rng (xs (i0 + 2))
  rw [hx2] at x2r
  obtain ⟨x3, hx3⟩ : ∃ z, (xs (i0 + 3)).toInt = z := ⟨_, rfl⟩
  have x3r := c_rng (xs (i0 + 3))
  rw [hx3] at x3r
  obtain ⟨x4, hx4⟩ : ∃ z, (xs (i0 + 4)).toInt = z := ⟨_, rfl⟩
  have x4r := c_rng (xs (i0 + 4))
  rw [hx4] at x4r
  obtain ⟨x5, hx5⟩ : ∃ z, (xs (i0 + 5)).toInt = z := ⟨_, rfl⟩
  have x5r := c_rng (xs (i0 + 5))
  rw [hx5] at x5r
  obtain ⟨x6, hx6⟩ : ∃ z, (xs (i0 + 6)).toInt = z := ⟨_, rfl⟩
  have x6r := c_rng (xs (i0 + 6))
  rw [hx6] at x6r
  obtain ⟨x7, hx7⟩ : ∃ z, (xs (i0 + 7)).toInt = z := ⟨_, rfl⟩
  have x7r := c_rng (xs (i0 + 7))
  rw [hx7] at x7r
  have hP := iv_P hI
  have hQ := iv_Q hI
  have hT := rl_t hR
  have hU := rl_u hR
  obtain ⟨n0, hn0⟩ : ∃ z, c P 0 = z := ⟨_, rfl⟩
  have hm0 : c 41 20 = n0 := (rl_nums hR).1.symm.trans hn0
  have hr0 := ir_p0_0 hI hP
  rw [hn0] at hr0
  obtain ⟨n1, hn1⟩ : ∃ z, c P 1 = z := ⟨_, rfl⟩
  have hm1 : c 41 21 = n1 := (rl_nums hR).2.1.symm.trans hn1
  have hr1 := ir_p0_1 hI hP
  rw [hn1] at hr1
  obtain ⟨n2, hn2⟩ : ∃ z, c P 2 = z := ⟨_, rfl⟩
  have hm2 : c 41 22 = n2 := (rl_nums hR).2.2.1.symm.trans hn2
  have hr2 := ir_p0_2 hI hP
  rw [hn2] at hr2
  obtain ⟨n3, hn3⟩ : ∃ z, c P 3 = z := ⟨_, rfl⟩
  have hm3 : c 41 23 = n3 := (rl_nums hR).2.2.2.symm.trans hn3
  have hr3 := ir_p0_3 hI hP
  rw [hn3] at hr3
  have hNimg := rl_img hR
  have hNwk := rl_wk hR
  have h_1 := ir_3_4 hI
  have hIw := rl_iw hR
  refine q_aload_n c_296_1650 rfl (q_aload_n c_296_1651 rfl (q_iload c_296_1652 rfl (q_iconst c_296_1654 (v_iadd (v := (i0 : Int) + 1) c_296_1655 rfl (v_scr (j := i0 + 1) c_296_1656 (by omega) (by omega) hL hx1 (q_aload_n c_296_1657 rfl (q_iload c_296_1658 rfl ?_)))))))
  refine q_iconst c_296_1660 (v_iadd (v := (i0 : Int) + 2) c_296_1661 rfl (v_scr (j := i0 + 2) c_296_1662 (by omega) (by omega) hL hx2 (q_aload_n c_296_1663 rfl (q_iload c_296_1664 rfl (q_iconst c_296_1666 (v_iadd (v := (i0 : Int) + 3) c_296_1667 rfl (v_scr (j := i0 + 3) c_296_1668 (by omega) (by omega) hL hx3 ?_)))))))
  refine q_aload_n c_296_1669 rfl (q_iload c_296_1670 rfl (q_iconst c_296_1672 (v_iadd (v := (i0 : Int) + 4) c_296_1673 rfl (v_scr (j := i0 + 4) c_296_1674 (by omega) (by omega) hL hx4 (q_aload_n c_296_1675 rfl (q_iload c_296_1676 rfl (q_iconst c_296_1678 ?_)))))))
  refine v_iadd (v := (i0 : Int) + 5) c_296_1679 rfl (v_scr (j := i0 + 5) c_296_1680 (by omega) (by omega) hL hx5 (q_aload_n c_296_1681 rfl (q_iload c_296_1682 rfl (v_bip c_296_1684 (by decide) (v_iadd (v := (i0 : Int) + 6) c_296_1686 rfl (v_scr (j := i0 + 6) c_296_1687 (by omega) (by omega) hL hx6 (q_aload_n c_296_1688 rfl ?_)))))))
  refine q_call c_296_1689 rfl rfl rfl (q_aload c_295_0 rfl (q_iconst c_295_2 (q_aload_n c_295_3 rfl (q_iload_n c_295_4 rfl (q_iload_n c_295_5 rfl (q_iload_n c_295_6 rfl (q_iload c_295_7 rfl ?_)))))))
  refine q_iload c_295_9 rfl (q_iload c_295_11 rfl ?_)
  refine v_cv c_295_13 km_9_115 rfl rfl (Nat.le_of_ble_eq_true rfl) ⟨⟨rfl, rfl⟩, Nat.le_of_ble_eq_true rfl, rfl⟩ (Nat.le_of_ble_eq_true rfl) (Nat.le_of_ble_eq_true rfl) (s_138 (a1 := x1) (a2 := x2) (a3 := x3) (a4 := x4) (a5 := x5) (a6 := x6) hI (show (-2147483648) ≤ x1 ∧ x1 ≤ 2147483647 from ⟨by omega, by omega⟩) (show (-2147483648) ≤ x2 ∧ x2 ≤ 2147483647 from ⟨by omega, by omega⟩) (show (-2147483648) ≤ x3 ∧ x3 ≤ 2147483647 from ⟨by omega, by omega⟩) (show (-2147483648) ≤ x4 ∧ x4 ≤ 2147483647 from ⟨by omega, by omega⟩) (show (-2147483648) ≤ x5 ∧ x5 ≤ 2147483647 from ⟨by omega, by omega⟩) (show (-2147483648) ≤ x6 ∧ x6 ≤ 2147483647 from ⟨by omega, by omega⟩) (fun c_2 hI_3 hF_4 => ?_) (fun c_5 y_8 hI_6 hF_7 hy_8 => ?_))
  · skip
    refine bk_thr (z := Int32.ofInt 1) rfl ⟨_, _, rfl⟩ rfl (bk_inl (q_istore c_296_1692 (Nat.le_of_ble_eq_true rfl) (q_aload_n c_296_1694 rfl (q_aload_n c_296_1695 rfl (q_iload c_296_1696 rfl (q_iconst c_296_1698 (v_iadd (v := (i0 : Int) + 1) c_296_1699 rfl ?_)))))))
    refine v_scr (j := i0 + 1) c_296_1700 (by omega) (by omega) hL hx1 (q_aload_n c_296_1701 rfl (q_iload c_296_1702 rfl (q_iconst c_296_1704 (v_iadd (v := (i0 : Int) + 2) c_296_1705 rfl (v_scr (j := i0 + 2) c_296_1706 (by omega) (by omega) hL hx2 (q_aload_n c_296_1707 rfl (q_iload c_296_1708 rfl ?_)))))))
    refine q_iconst c_296_1710 (v_iadd (v := (i0 : Int) + 3) c_296_1711 rfl (v_scr (j := i0 + 3) c_296_1712 (by omega) (by omega) hL hx3 (q_aload_n c_296_1713 rfl (q_iload c_296_1714 rfl (q_iconst c_296_1716 (v_iadd (v := (i0 : Int) + 4) c_296_1717 rfl (v_scr (j := i0 + 4) c_296_1718 (by omega) (by omega) hL hx4 ?_)))))))
    refine q_aload_n c_296_1719 rfl (q_iload c_296_1720 rfl (q_iconst c_296_1722 (v_iadd (v := (i0 : Int) + 5) c_296_1723 rfl (v_scr (j := i0 + 5) c_296_1724 (by omega) (by omega) hL hx5 (q_aload_n c_296_1725 rfl (q_iload c_296_1726 rfl (v_bip c_296_1728 (by decide) ?_)))))))
    refine v_iadd (v := (i0 : Int) + 6) c_296_1730 rfl (v_scr (j := i0 + 6) c_296_1731 (by omega) (by omega) hL hx6 (v_cv c_296_1732 km_9_255 rfl rfl (Nat.le_of_ble_eq_true rfl) ⟨⟨rfl, rfl⟩, Nat.le_of_ble_eq_true rfl, rfl⟩ (Nat.le_of_ble_eq_true rfl) (Nat.le_of_ble_eq_true rfl) (s_256 (a1 := x1) (a2 := x2) (a3 := x3) (a4 := x4) (a5 := x5) (a6 := x6) hI_3 (show (-2147483648) ≤ x1 ∧ x1 ≤ 2147483647 from ⟨by omega, by omega⟩) (show (-2147483648) ≤ x2 ∧ x2 ≤ 2147483647 from ⟨by omega, by omega⟩) (show (-2147483648) ≤ x3 ∧ x3 ≤ 2147483647 from ⟨by omega, by omega⟩) (show (-2147483648) ≤ x4 ∧ x4 ≤ 2147483647 from ⟨by omega, by omega⟩) (show (-2147483648) ≤ x5 ∧ x5 ≤ 2147483647 from ⟨by omega, by omega⟩) (show (-2147483648) ≤ x6 ∧ x6 ≤ 2147483647 from ⟨by omega, by omega⟩) (fun c_9 y_12 hI_10 hF_11 hy_12 => (bk_inl (q_istore c_296_1735 (Nat.le_of_ble_eq_true rfl) (q_goto (t := 1816) c_296_1737 rfl (Wp_ls [(4, vi (i0 : Int)), (3, .ref 67), (2, .ref 41), (1, .ref 0), (0, .ref a_SC)] (lsub_cons rfl (lsub_cons rfl (lsub_cons rfl (lsub_cons rfl (lsub_cons rfl lsub_nil))))) ?_))))))))
    have h_13 := ir_1_3 hI
    have kn_14 : Hid (c_2 1 3 = c 1 3) := hF_4 1 3 (qn_cc1064621 hP)
    have kn_15 : Hid (c_9 1 3 = c 1 3) := (hF_11 1 3 qn_9d94bd60f).trans (hid kn_14)
    have h_16 : c_9 1 3 = c 1 3 := (hid kn_15)
    have h_17 := ir_41_2 hI
    have kn_18 : Hid (c_2 41 2 = c 41 2) := hF_4 41 2 (qn_55346d250 hP)
    have kn_19 : Hid (c_9 41 2 = c 41 2) := (hF_11 41 2 qn_9f4d5821f).trans (hid kn_18)
    have h_20 : c_9 41 2 = c 41 2 := (hid kn_19)
    have kn_21 : Hid (c_2 P 0 = n0) := (hF_4 P 0 (qn_1a125c37c hP)).trans (hn0)
    have kn_22 : Hid (c_9 P 0 = n0) := (hF_11 P 0 (qn_3dda11c13 hP)).trans (hid kn_21)
    have h_23 : c_9 P 0 = n0 := (hid kn_22)
    have kn_24 : Hid (c_2 41 20 = n0) := (hF_4 41 20 (qn_55346d250 hP)).trans (hm0)
    have kn_25 : Hid (c_9 41 20 = n0) := (hF_11 41 20 qn_de1d671ad).trans (hid kn_24)
    have h_26 : c_9 41 20 = n0 := (hid kn_25)
    have kn_27 : Hid (c_2 P 1 = n1) := (hF_4 P 1 (qn_1a125c37c hP)).trans (hn1)
    have kn_28 : Hid (c_9 P 1 = n1) := (hF_11 P 1 (qn_3dda11c13 hP)).trans (hid kn_27)
    have h_29 : c_9 P 1 = n1 := (hid kn_28)
    have kn_30 : Hid (c_2 41 21 = n1) := (hF_4 41 21 (qn_55346d250 hP)).trans (hm1)
    have kn_31 : Hid (c_9 41 21 = n1) := (hF_11 41 21 qn_b0c4591b1).trans (hid kn_30)
    have h_32 : c_9 41 21 = n1 := (hid kn_31)
    have kn_33 : Hid (c_2 P 2 = n2) := (hF_4 P 2 (qn_1a125c37c hP)).trans (hn2)
    have kn_34 : Hid (c_9 P 2 = n2) := (hF_11 P 2 (qn_3dda11c13 hP)).trans (hid kn_33)
    have h_35 : c_9 P 2 = n2 := (hid kn_34)
    have kn_36 : Hid (c_2 41 22 = n2) := (hF_4 41 22 (qn_55346d250 hP)).trans (hm2)
    have kn_37 : Hid (c_9 41 22 = n2) := (hF_11 41 22 qn_00a455246).trans (hid kn_36)
    have h_38 : c_9 41 22 = n2 := (hid kn_37)
    have kn_39 : Hid (c_2 P 3 = n3) := (hF_4 P 3 (qn_1a125c37c hP)).trans (hn3)
    have kn_40 : Hid (c_9 P 3 = n3) := (hF_11 P 3 (qn_3dda11c13 hP)).trans (hid kn_39)
    have h_41 : c_9 P 3 = n3 := (hid kn_40)
    have kn_42 : Hid (c_2 41 23 = n3) := (hF_4 41 23 (qn_55346d250 hP)).trans (hm3)
    have kn_43 : Hid (c_9 41 23 = n3) := (hF_11 41 23 qn_375070522).trans (hid kn_42)
    have h_44 : c_9 41 23 = n3 := (hid kn_43)
    have kn_45 : Hid (c_2 3 4 = c 3 4) := hF_4 3 4 (qn_8703343bc hP)
    have kn_46 : Hid (c_9 3 4 = c 3 4) := (hF_11 3 4 qn_51e0e9667).trans (hid kn_45)
    have h_47 : c_9 3 4 = c 3 4 := (hid kn_46)
    have h_48 := ir_41_52 hI
    have kn_49 : Hid (c_2 41 52 = c 41 52) := hF_4 41 52 (qn_55346d250 hP)
    have kn_50 : Hid (c_9 41 52 = c 41 52) := (hF_11 41 52 qn_5c50dd497).trans (hid kn_49)
    have h_51 : c_9 41 52 = c 41 52 := (hid kn_50)
    have h_52 := ir_3_3 hI
    have kn_53 : Hid (c_2 3 3 = c 3 3) := hF_4 3 3 (qn_8703343bc hP)
    have kn_54 : Hid (c_9 3 3 = c 3 3) := (hF_11 3 3 qn_51e0e9667).trans (hid kn_53)
    have h_55 : c_9 3 3 = c 3 3 := (hid kn_54)
    have h_56 := ir_41_35 hI
    have kn_57 : Hid (c_2 41 35 = c 41 35) := hF_4 41 35 (qn_55346d250 hP)
    have kn_58 : Hid (c_9 41 35 = c 41 35) := (hF_11 41 35 qn_e74909efc).trans (hid kn_57)
    have h_59 : c_9 41 35 = c 41 35 := (hid kn_58)
    have h_60 : c_9 3 4 = c 3 4 := (hid kn_46)
    exact K P Q c_9 1 (by decide) hI_10 ⟨by omega, ub_fr hU (fun j => (hF_11 2 j qn_ea1d8203a).trans (hF_4 2 j (qn_11c530ba0 hP))) (fun j => (hF_11 43 j qn_921fc31f7).trans (hF_4 43 j (qn_ce891e06c hP))), ⟨by omega, by omega, by omega, by omega⟩, by omega, by omega, iw_fr2 hIw (by omega) (fun j => (hF_11 6 j qn_9f1fcb8f5).trans (hF_4 6 j (qn_33622cbee hP))) (fun j => (hF_11 66 j qn_819b02093).trans (hF_4 66 j (qn_7036d22af hP)))⟩
  refine bk_inl (v_i2l c_295_16 (by omega) (v_ls c_295_17 rfl (by decide) (by decide) (by decide) (q_goto (t := 25) c_295_18 rfl (q_iconst c_295_25 (q_iret c_295_26 rfl (bk_inl (q_istore c_296_1692 (Nat.le_of_ble_eq_true rfl) ?_)))))))
  refine q_aload_n c_296_1694 rfl (q_aload_n c_296_1695 rfl (q_iload c_296_1696 rfl (q_iconst c_296_1698 (v_iadd (v := (i0 : Int) + 1) c_296_1699 rfl (v_scr (j := i0 + 1) c_296_1700 (by omega) (by omega) hL hx1 (q_aload_n c_296_1701 rfl (q_iload c_296_1702 rfl ?_)))))))
  refine q_iconst c_296_1704 (v_iadd (v := (i0 : Int) + 2) c_296_1705 rfl (v_scr (j := i0 + 2) c_296_1706 (by omega) (by omega) hL hx2 (q_aload_n c_296_1707 rfl (q_iload c_296_1708 rfl (q_iconst c_296_1710 (v_iadd (v := (i0 : Int) + 3) c_296_1711 rfl (v_scr (j := i0 + 3) c_296_1712 (by omega) (by omega) hL hx3 ?_)))))))
  refine q_aload_n c_296_1713 rfl (q_iload c_296_1714 rfl (q_iconst c_296_1716 (v_iadd (v := (i0 : Int) + 4) c_296_1717 rfl (v_scr (j := i0 + 4) c_296_1718 (by omega) (by omega) hL hx4 (q_aload_n c_296_1719 rfl (q_iload c_296_1720 rfl (q_iconst c_296_1722 ?_)))))))
  refine v_iadd (v := (i0 : Int) + 5) c_296_1723 rfl (v_scr (j := i0 + 5) c_296_1724 (by omega) (by omega) hL hx5 (q_aload_n c_296_1725 rfl (q_iload c_296_1726 rfl (v_bip c_296_1728 (by decide) (v_iadd (v := (i0 : Int) + 6) c_296_1730 rfl (v_scr (j := i0 + 6) c_296_1731 (by omega) (by omega) hL hx6 ?_))))))
  have hI_61 := iw_lx (a := 67) (j := 0) (v := y_8) hI_6 (by omega)
  refine v_cv c_296_1732 km_9_255 rfl rfl (Nat.le_of_ble_eq_true rfl) ⟨⟨rfl, rfl⟩, Nat.le_of_ble_eq_true rfl, rfl⟩ (Nat.le_of_ble_eq_true rfl) (Nat.le_of_ble_eq_true rfl) (s_256 (a1 := x1) (a2 := x2) (a3 := x3) (a4 := x4) (a5 := x5) (a6 := x6) hI_61 (show (-2147483648) ≤ x1 ∧ x1 ≤ 2147483647 from ⟨by omega, by omega⟩) (show (-2147483648) ≤ x2 ∧ x2 ≤ 2147483647 from ⟨by omega, by omega⟩) (show (-2147483648) ≤ x3 ∧ x3 ≤ 2147483647 from ⟨by omega, by omega⟩) (show (-2147483648) ≤ x4 ∧ x4 ≤ 2147483647 from ⟨by omega, by omega⟩) (show (-2147483648) ≤ x5 ∧ x5 ≤ 2147483647 from ⟨by omega, by omega⟩) (show (-2147483648) ≤ x6 ∧ x6 ≤ 2147483647 from ⟨by omega, by omega⟩) (fun c_62 y_65 hI_63 hF_64 hy_65 => (bk_inl (q_istore c_296_1735 (Nat.le_of_ble_eq_true rfl) (q_goto (t := 1816) c_296_1737 rfl (Wp_ls [(4, vi (i0 : Int)), (3, .ref 67), (2, .ref 41), (1, .ref 0), (0, .ref a_SC)] (lsub_cons rfl (lsub_cons rfl (lsub_cons rfl (lsub_cons rfl (lsub_cons rfl lsub_nil))))) ?_))))))
  have h_66 := ir_1_3 hI
  have kn_67 : Hid (c_5 1 3 = c 1 3) := hF_7 1 3 (qn_cc1064621 hP)
  have kn_68 : Hid (c_62 1 3 = c 1 3) := (hF_64 1 3 qn_9d94bd60f).trans ((up_c (nn rfl)).trans (hid kn_67))
  have h_69 : c_62 1 3 = c 1 3 := (hid kn_68)
  have h_70 := ir_41_2 hI
  have kn_71 : Hid (c_5 41 2 = c 41 2) := hF_7 41 2 (qn_55346d250 hP)
  have kn_72 : Hid (c_62 41 2 = c 41 2) := (hF_64 41 2 qn_9f4d5821f).trans ((up_c (nn rfl)).trans (hid kn_71))
  have h_73 : c_62 41 2 = c 41 2 := (hid kn_72)
  have kn_74 : Hid (c_5 P 0 = n0) := (hF_7 P 0 (qn_1a125c37c hP)).trans (hn0)
  have kn_75 : Hid (c_62 P 0 = n0) := (hF_64 P 0 (qn_3dda11c13 hP)).trans ((up_c (np0 hP rfl)).trans (hid kn_74))
  have h_76 : c_62 P 0 = n0 := (hid kn_75)
  have kn_77 : Hid (c_5 41 20 = n0) := (hF_7 41 20 (qn_55346d250 hP)).trans (hm0)
  have kn_78 : Hid (c_62 41 20 = n0) := (hF_64 41 20 qn_de1d671ad).trans ((up_c (nn rfl)).trans (hid kn_77))
  have h_79 : c_62 41 20 = n0 := (hid kn_78)
  have kn_80 : Hid (c_5 P 1 = n1) := (hF_7 P 1 (qn_1a125c37c hP)).trans (hn1)
  have kn_81 : Hid (c_62 P 1 = n1) := (hF_64 P 1 (qn_3dda11c13 hP)).trans ((up_c (np0 hP rfl)).trans (hid kn_80))
  have h_82 : c_62 P 1 = n1 := (hid kn_81)
  have kn_83 : Hid (c_5 41 21 = n1) := (hF_7 41 21 (qn_55346d250 hP)).trans (hm1)
  have kn_84 : Hid (c_62 41 21 = n1) := (hF_64 41 21 qn_b0c4591b1).trans ((up_c (nn rfl)).trans (hid kn_83))
  have h_85 : c_62 41 21 = n1 := (hid kn_84)
  have kn_86 : Hid (c_5 P 2 = n2) := (hF_7 P 2 (qn_1a125c37c hP)).trans (hn2)
  have kn_87 : Hid (c_62 P 2 = n2) := (hF_64 P 2 (qn_3dda11c13 hP)).trans ((up_c (np0 hP rfl)).trans (hid kn_86))
  have h_88 : c_62 P 2 = n2 := (hid kn_87)
  have kn_89 : Hid (c_5 41 22 = n2) := (hF_7 41 22 (qn_55346d250 hP)).trans (hm2)
  have kn_90 : Hid (c_62 41 22 = n2) := (hF_64 41 22 qn_00a455246).trans ((up_c (nn rfl)).trans (hid kn_89))
  have h_91 : c_62 41 22 = n2 := (hid kn_90)
  have kn_92 : Hid (c_5 P 3 = n3) := (hF_7 P 3 (qn_1a125c37c hP)).trans (hn3)
  have kn_93 : Hid (c_62 P 3 = n3) := (hF_64 P 3 (qn_3dda11c13 hP)).trans ((up_c (np0 hP rfl)).trans (hid kn_92))
  have h_94 : c_62 P 3 = n3 := (hid kn_93)
  have kn_95 : Hid (c_5 41 23 = n3) := (hF_7 41 23 (qn_55346d250 hP)).trans (hm3)
  have kn_96 : Hid (c_62 41 23 = n3) := (hF_64 41 23 qn_375070522).trans ((up_c (nn rfl)).trans (hid kn_95))
  have h_97 : c_62 41 23 = n3 := (hid kn_96)
  have kn_98 : Hid (c_5 3 4 = c 3 4) := hF_7 3 4 (qn_8703343bc hP)
  have kn_99 : Hid (c_62 3 4 = c 3 4) := (hF_64 3 4 qn_51e0e9667).trans ((up_c (nn rfl)).trans (hid kn_98))
  have h_100 : c_62 3 4 = c 3 4 := (hid kn_99)
  have h_101 := ir_41_52 hI
  have kn_102 : Hid (c_5 41 52 = c 41 52) := hF_7 41 52 (qn_55346d250 hP)
  have kn_103 : Hid (c_62 41 52 = c 41 52) := (hF_64 41 52 qn_5c50dd497).trans ((up_c (nn rfl)).trans (hid kn_102))
  have h_104 : c_62 41 52 = c 41 52 := (hid kn_103)
  have h_105 := ir_3_3 hI
  have kn_106 : Hid (c_5 3 3 = c 3 3) := hF_7 3 3 (qn_8703343bc hP)
  have kn_107 : Hid (c_62 3 3 = c 3 3) := (hF_64 3 3 qn_51e0e9667).trans ((up_c (nn rfl)).trans (hid kn_106))
  have h_108 : c_62 3 3 = c 3 3 := (hid kn_107)
  have h_109 := ir_41_35 hI
  have kn_110 : Hid (c_5 41 35 = c 41 35) := hF_7 41 35 (qn_55346d250 hP)
  have kn_111 : Hid (c_62 41 35 = c 41 35) := (hF_64 41 35 qn_e74909efc).trans ((up_c (nn rfl)).trans (hid kn_110))
  have h_112 : c_62 41 35 = c 41 35 := (hid kn_111)
  have h_113 : c_62 3 4 = c 3 4 := (hid kn_99)
  exact K P Q c_62 0 (by decide) hI_63 ⟨by omega, ub_fr hU (fun j => (hF_64 2 j qn_ea1d8203a).trans ((up_c (nn rfl)).trans (hF_7 2 j (qn_11c530ba0 hP)))) (fun j => (hF_64 43 j qn_921fc31f7).trans ((up_c (nn rfl)).trans (hF_7 43 j (qn_ce891e06c hP)))), ⟨by omega, by omega, by omega, by omega⟩, by omega, by omega, iw_fr2 hIw (by omega) (fun j => (hF_64 6 j qn_9f1fcb8f5).trans ((up_c (nn rfl)).trans (hF_7 6 j (qn_33622cbee hP)))) (fun j => (hF_64 66 j qn_819b02093).trans ((up_c (nn rfl)).trans (hF_7 66 j (qn_7036d22af hP))))⟩

set_option maxRecDepth 100000 in
set_option maxHeartbeats 4000000 in
theorem o_39 {xs : Nat → Int32} {L i0 d nc ns P Q : Nat} {c : ME} {Z : AR → Prop} (hi : i0 + 8 ≤ L) (hL : L ≤ 100000) (hI : Iv 0 (-1) P Q c) (hR : Rq P c) (K : ∀ (P2 Q2 : Nat) (c2 : ME) (e : Nat), e ≤ 1 → Iv 0 (-1) P2 Q2 c2 → (Rq P2 c2) → Wp (a_scr L xs) (d + 90) 296 1816 [(4, vi (i0 : Int)), (3, .ref 67), (2, .ref 41), (1, .ref 0), (0, .ref a_SC)] [] (Wd P2 Q2 P2 P2 c2) (nc + e) (ns + 6 * e) Z) : Wp (a_scr L xs) (d + 90) 296 1740 [(4, vi (i0 : Int)), (3, .ref 67), (2, .ref 41), (1, .ref 0), (0, .ref a_SC)] [] (Wd P Q P P c) nc ns Z := by
  obtain ⟨x1, hx1⟩ : ∃ z, (xs (i0 + 1)).toInt = z := ⟨_, rfl⟩
  have x1r := c_rng (xs (i0 + 1))
  rw [hx1] at x1r
  obtain ⟨x2, hx2⟩ : ∃ z, (xs (i0 + 2)).toInt = z := ⟨_, rfl⟩
  have x2r := c_rng (xs (i0 + 2))
  rw [hx2] at x2r
  obtain ⟨x3, hx3⟩ : ∃ z, (xs (i0 + 3)).toInt = z := ⟨_, rfl⟩
  have x3r := c_rng (xs (i0 + 3))
  rw [hx3] at x3r
  obtain ⟨x4, hx4⟩ : ∃ z, (xs (i0 + 4)).toInt = z := ⟨_, rfl⟩
  have x4r := c_rng (xs (i0 + 4))
  rw [hx4] at x4r
  obtain ⟨x5, hx5⟩ : ∃ z, (xs (i0 + 5)).toInt = z := ⟨_, rfl⟩
  have x5r := c_rng (xs (i0 + 5))
  rw [hx5] at x5r
  obtain ⟨x6, hx6⟩ : ∃ z, (xs (i0 + 6)).toInt = z := ⟨_, rfl⟩
  have x6r := c_rng (xs (i0 + 6))
  rw [hx6] at x6r
  obtain ⟨x7, hx7⟩ : ∃ z, (xs (i0 + 7)).toInt = z := ⟨_, rfl⟩
  have x7r := c_rng (xs (i0 + 7))
  rw [hx7] at x7r
  have hP := iv_P hI
  have hQ := iv_Q hI
  have hT := rl_t hR
  have hU := rl_u hR
  obtain ⟨n0, hn0⟩ : ∃ z, c P 0 = z := ⟨_, rfl⟩
  have hm0 : c 41 20 = n0 := (rl_nums hR).1.symm.trans hn0
  have hr0 := ir_p0_0 hI hP
  rw [hn0] at hr0
  obtain ⟨n1, hn1⟩ : ∃ z, c P 1 = z := ⟨_, rfl⟩
  have hm1 : c 41 21 = n1 := (rl_nums hR).2.1.symm.trans hn1
  have hr1 := ir_p0_1 hI hP
  rw [hn1] at hr1
  obtain ⟨n2, hn2⟩ : ∃ z, c P 2 = z := ⟨_, rfl⟩
  have hm2 : c 41 22 = n2 := (rl_nums hR).2.2.1.symm.trans hn2
  have hr2 := ir_p0_2 hI hP
  rw [hn2] at hr2
  obtain ⟨n3, hn3⟩ : ∃ z, c P 3 = z := ⟨_, rfl⟩
  have hm3 : c 41 23 = n3 := (rl_nums hR).2.2.2.symm.trans hn3
  have hr3 := ir_p0_3 hI hP
  rw [hn3] at hr3
  have hNimg := rl_img hR
  have hNwk := rl_wk hR
  have h_1 := ir_3_4 hI
  have hIw := rl_iw hR
  refine q_aload_n c_296_1740 rfl (v_cv c_296_1741 km_9_256 rfl rfl (Nat.le_of_ble_eq_true rfl) ⟨⟨rfl, rfl⟩, Nat.le_of_ble_eq_true rfl, rfl⟩ (Nat.le_of_ble_eq_true rfl) (Nat.le_of_ble_eq_true rfl) (q_aload_n c_140_0 rfl (v_gr (t := 3) c_140_1 kf_7_19 rfl (Nat.le_of_ble_eq_true rfl) rfl (v_gi (z := 4) (v := c 3 4) c_140_4 kf_7_318 rfl (Nat.le_of_ble_eq_true rfl) rfl rfl rfl (q_iconst c_140_7 ?_)))))
  by_cases h_2 : c 3 4 ≠ 3
  · refine v_ic_ne_t (t := 13) c_140_8 rfl ⟨h_2, ⟨(Int.le_trans (by decide) h_1.1), (Int.le_trans h_1.2 (by decide))⟩, by decide, by decide⟩ (q_aload_n c_140_13 rfl (v_gr (t := 3) c_140_14 kf_7_19 rfl (Nat.le_of_ble_eq_true rfl) rfl (q_aload_n c_140_17 rfl (v_gr (t := 37) c_140_18 kf_7_62 rfl (Nat.le_of_ble_eq_true rfl) rfl (v_cv c_140_21 km_7_321 rfl rfl (Nat.le_of_ble_eq_true rfl) ⟨⟨rfl, rfl⟩, Nat.le_of_ble_eq_true rfl, rfl⟩ (Nat.le_of_ble_eq_true rfl) (Nat.le_of_ble_eq_true rfl) (q_aload_n c_26_0 rfl (v_gi (z := 4) (v := c 3 4) c_26_1 kf_1_25 rfl (Nat.le_of_ble_eq_true rfl) rfl rfl rfl ?_)))))))
    refine q_iconst c_26_4 (v_ic_ge_f (t := 78) c_26_5 rfl ⟨(Int.le_trans (by decide) h_1.1), by first | exact q_242ba7c82 h_1 h_2 | omega, by decide⟩ (q_aload_n c_26_8 rfl (v_gi (z := 4) (v := c 3 4) c_26_9 kf_1_25 rfl (Nat.le_of_ble_eq_true rfl) rfl rfl rfl (v_sip c_26_12 (by decide) (v_imul (v := 578 * c 3 4) c_26_15 (by first | (clear hT hNimg hNwk h_1 h_2; omega) | omega) (q_istore_n c_26_16 (Nat.le_of_ble_eq_true rfl) (q_aload_n c_26_17 rfl ?_)))))))
    refine v_gr (t := 38) c_26_18 kf_1_32 rfl (Nat.le_of_ble_eq_true rfl) rfl (q_iconst c_26_21 (q_aload_n c_26_22 rfl (v_gr (t := 5) c_26_23 kf_1_15 rfl (Nat.le_of_ble_eq_true rfl) rfl (q_iload_n c_26_26 rfl (v_bip c_26_27 (by decide) (v_cpy c_26_29 rfl rfl (by decide) rfl (by decide) rfl rfl (by omega) (Nat.le_of_ble_eq_true rfl) (by omega) (q_aload_n c_26_32 rfl ?_)))))))
    refine v_gr (t := 4) c_26_33 kf_1_11 rfl (Nat.le_of_ble_eq_true rfl) rfl (q_iconst c_26_36 (q_aload_n c_26_37 rfl (v_gr (t := 5) c_26_38 kf_1_15 rfl (Nat.le_of_ble_eq_true rfl) rfl (q_iload_n c_26_41 rfl (v_bip c_26_42 (by decide) (v_iadd (v := 578 * c 3 4 + 34) c_26_44 rfl (q_aload_n c_26_45 rfl ?_)))))))
    have h_3 := ir_3_3 hI
    refine v_gi (z := 3) (v := c 3 3) c_26_46 kf_1_21 rfl (Nat.le_of_ble_eq_true rfl) rfl rfl (upc_c (by omega)) (v_bip c_26_49 (by decide) (v_imul (v := 34 * c 3 3) c_26_51 (by first | (clear hT hNimg hNwk h_1 h_3 h_2; omega) | omega) (v_cpy c_26_52 rfl rfl (by decide) rfl (by decide) rfl rfl (by omega) (Nat.le_of_ble_eq_true rfl) (by omega) (q_aload_n c_26_55 rfl (v_gr (t := 6) c_26_56 kf_1_18 rfl (Nat.le_of_ble_eq_true rfl) rfl (q_aload_n c_26_59 rfl (v_gi (z := 4) (v := c 3 4) c_26_60 kf_1_25 rfl (Nat.le_of_ble_eq_true rfl) rfl rfl ((upc_c (by omega)).trans (upc_c (by omega))) ?_)))))))
    refine q_aload_n c_26_63 rfl (v_gi (z := 3) (v := c 3 3) c_26_64 kf_1_21 rfl (Nat.le_of_ble_eq_true rfl) rfl rfl ((upc_c (by omega)).trans (upc_c (by omega))) (v_is c_26_67 rfl (by decide) (by decide) ⟨h_1.1, by first | exact q_242ba7c82 h_1 h_2 | omega⟩ (q_aload_n c_26_68 rfl (q_dup c_26_69 rfl (v_gi (z := 4) (v := c 3 4) c_26_70 kf_1_25 rfl (Nat.le_of_ble_eq_true rfl) rfl rfl ((up_c (nn rfl)).trans ((upc_c (by omega)).trans (upc_c (by omega)))) (q_iconst c_26_73 (v_iadd (v := c 3 4 + 1) c_26_74 rfl ?_)))))))
    refine v_pi (z := 4) c_26_75 kf_1_25 rfl (Nat.le_of_ble_eq_true rfl) rfl rfl rfl (by decide) (q_vret rfl rfl (bk_inl (q_aload_n c_140_24 rfl (v_gr (t := 3) c_140_25 kf_7_19 rfl (Nat.le_of_ble_eq_true rfl) rfl (v_gi (z := 4) (v := c 3 4 + 1) c_140_28 kf_7_318 rfl (Nat.le_of_ble_eq_true rfl) rfl rfl (up_e rfl) (q_iret c_140_31 rfl (bk_inl ?_)))))))
    refine q_pop c_296_1744 rfl (q_aload_n c_296_1745 rfl (v_cv c_296_1746 km_9_259 rfl rfl (Nat.le_of_ble_eq_true rfl) ⟨⟨rfl, rfl⟩, Nat.le_of_ble_eq_true rfl, rfl⟩ (Nat.le_of_ble_eq_true rfl) (Nat.le_of_ble_eq_true rfl) (q_aload_n c_259_0 rfl (q_iconst c_259_1 (v_pi (z := 0) c_259_2 kf_8_3 rfl (Nat.le_of_ble_eq_true rfl) rfl rfl rfl (by decide) (q_aload_n c_259_5 rfl ?_))))))
    have h_4 := ir_41_52 hI
    refine v_gi (z := 52) (v := c 41 52) c_259_6 kf_8_185 rfl (Nat.le_of_ble_eq_true rfl) rfl rfl ((up_n (by decide)).trans ((up_c (nn rfl)).trans ((up_c (nn rfl)).trans ((upc_c (by omega)).trans (upc_c (by omega)))))) (q_iconst c_259_9 (v_ic_ne_t (t := 15) c_259_10 rfl ⟨by omega, ⟨(Int.le_trans (by decide) h_4.1), (Int.le_trans h_4.2 (by decide))⟩, by decide, by decide⟩ (q_aload_n c_259_15 rfl (q_aload_n c_259_16 rfl (v_gi (z := 52) (v := c 41 52) c_259_17 kf_8_185 rfl (Nat.le_of_ble_eq_true rfl) rfl rfl ((up_n (by decide)).trans ((up_c (nn rfl)).trans ((up_c (nn rfl)).trans ((upc_c (by omega)).trans (upc_c (by omega)))))) (q_iconst c_259_20 (v_cv c_259_21 km_8_456 rfl rfl (Nat.le_of_ble_eq_true rfl) ⟨⟨rfl, rfl⟩, Nat.le_of_ble_eq_true rfl, rfl⟩ (Nat.le_of_ble_eq_true rfl) (Nat.le_of_ble_eq_true rfl) ?_)))))))
    refine q_aload_n c_258_0 rfl (v_sip c_258_1 (by decide) (q_iload_n c_258_4 rfl (v_imul (v := 630 * c 41 52) c_258_5 (by first | (clear hT hNimg hNwk h_1 h_3 h_4 h_2; omega) | omega) (q_aload_n c_258_6 rfl (v_gr (t := 58) c_258_7 kf_8_65 rfl (Nat.le_of_ble_eq_true rfl) rfl (v_bip c_258_10 (by decide) (q_iload_n c_258_12 rfl ?_)))))))
    refine v_cv c_258_13 km_8_452 rfl rfl (Nat.le_of_ble_eq_true rfl) ⟨⟨rfl, rfl⟩, Nat.le_of_ble_eq_true rfl, rfl⟩ (Nat.le_of_ble_eq_true rfl) (Nat.le_of_ble_eq_true rfl) (s_257k (t := 58) (nt := 37) (q := 630 * c 41 52) (n := 37) (v := 630 * c 41 52 + 37) rfl (by decide) (by decide) (by decide) (by omega) (by omega) (by omega) (bk_inl (q_istore_n c_258_16 (Nat.le_of_ble_eq_true rfl) (q_aload_n c_258_17 rfl (q_iload_n c_258_18 rfl (q_aload_n c_258_19 rfl (v_gr (t := 60) c_258_20 kf_8_71 rfl (Nat.le_of_ble_eq_true rfl) rfl (v_sip c_258_23 (by decide) ?_))))))))
    refine q_iload_n c_258_26 rfl (v_cv c_258_27 km_8_452 rfl rfl (Nat.le_of_ble_eq_true rfl) ⟨⟨rfl, rfl⟩, Nat.le_of_ble_eq_true rfl, rfl⟩ (Nat.le_of_ble_eq_true rfl) (Nat.le_of_ble_eq_true rfl) (s_257k (t := 60) (nt := 592) (q := 630 * c 41 52 + 37) (n := 592) (v := 630 * c 41 52 + 629) rfl (by decide) (by decide) (by decide) (by omega) (by omega) (by omega) (bk_inl (q_istore_n c_258_30 (Nat.le_of_ble_eq_true rfl) (q_iload_n c_258_31 rfl (v_if_eq_f (t := 48) c_258_32 rfl (by decide) (q_aload_n c_258_35 rfl (v_gr (t := 66) c_258_36 kf_8_90 rfl (Nat.le_of_ble_eq_true rfl) rfl ?_))))))))
    refine q_iload_n c_258_39 rfl (q_aload_n c_258_40 rfl ?_)
    have h_5 := ir_41_35 hI
    refine v_gi (z := 35) (v := c 41 35) c_258_41 kf_8_182 rfl (Nat.le_of_ble_eq_true rfl) rfl rfl ((upc_c (by omega)).trans ((upc_c (by omega)).trans ((up_n (by decide)).trans ((up_c (nn rfl)).trans ((up_c (nn rfl)).trans ((upc_c (by omega)).trans (upc_c (by omega)))))))) (v_is c_258_44 rfl (by decide) (by decide) ⟨by first | exact q_2013bec62 h_4 | (clear hT hNimg hNwk h_1 h_3 h_5 h_2; omega) | omega, by omega⟩ (q_goto (t := 58) c_258_45 rfl (q_vret rfl rfl (bk_inl (q_aload_n c_259_24 rfl (q_dup c_259_25 rfl (v_gi (z := 52) (v := c 41 52) c_259_26 kf_8_185 rfl (Nat.le_of_ble_eq_true rfl) rfl rfl ((up_c (nn rfl)).trans ((upc_c (by omega)).trans ((upc_c (by omega)).trans ((up_n (by decide)).trans ((up_c (nn rfl)).trans ((up_c (nn rfl)).trans ((upc_c (by omega)).trans (upc_c (by omega))))))))) ?_)))))))
    refine q_iconst c_259_29 (v_iadd (v := c 41 52 + 1) c_259_30 rfl (v_pi (z := 52) c_259_31 kf_8_185 rfl (Nat.le_of_ble_eq_true rfl) rfl rfl rfl (by decide) (q_aload_n c_259_34 rfl (v_gi (z := 52) (v := c 41 52 + 1) c_259_35 kf_8_185 rfl (Nat.le_of_ble_eq_true rfl) rfl rfl (up_e rfl) (q_iret c_259_38 rfl (bk_inl (q_pop c_296_1749 rfl ?_)))))))
    refine q_goto (t := 1816) c_296_1750 rfl ?_
    have hI_6 := cp_38_5 (w := 578 * c 3 4) (i := c 3 4) hI (by omega) (by omega)
    have hI_7 := cp_4_5 (w := 578 * c 3 4 + 34) (i := c 3 4) (n := 34 * c 3 3) (k := c 3 3) hI_6 (by omega) (by omega) (by omega) (by omega)
    have hI_8 := iw_6 (j := c 3 4) (v := c 3 3) hI_7 ⟨h_3.1, h_3.2⟩
    have hI_9 := iw_3_4 (v := c 3 4 + 1) hI_8 ⟨by first | exact rgp_l h_1.1 (by decide) | omega, by first | exact q_7ecd0bf1e h_1 h_2 | omega⟩
    have hI_10 := iw_41_0 (v := 0) hI_9 ⟨by decide, by decide⟩
    have hI_11 := cp_58_66 (w := 630 * c 41 52) (i := c 41 52) hI_10 (by omega) (by omega)
    have hI_12 := cp_60_66 (w := 630 * c 41 52 + 37) (i := c 41 52) hI_11 (by omega) (by omega)
    have hI_13 := iw_66 (j := 630 * c 41 52 + 629) (v := c 41 35) hI_12 (by omega) (by omega)
    have hI_14 := iw_41_52 (v := c 41 52 + 1) hI_13 ⟨by first | exact rgp_l h_4.1 (by decide) | omega, by omega⟩
    refine Wp_ls [(4, vi (i0 : Int)), (3, .ref 67), (2, .ref 41), (1, .ref 0), (0, .ref a_SC)] (lsub_cons rfl (lsub_cons rfl (lsub_cons rfl (lsub_cons rfl (lsub_cons rfl lsub_nil))))) ?_
    have h_15 := ir_1_3 hI
    have h_16 : (up (up (upc (upc (up (up (up (upc (upc c 38 0 5 (578 * c 3 4) 34) 4 0 5 (578 * c 3 4 + 34) (34 * c 3 3)) 6 (c 3 4) (c 3 3)) 3 4 (c 3 4 + 1)) 41 0 0) 58 0 66 (630 * c 41 52) 37) 60 0 66 (630 * c 41 52 + 37) 592) 66 (630 * c 41 52 + 629) (c 41 35)) 41 52 (c 41 52 + 1)) 1 3 = c 1 3 := ((up_c (nn rfl)).trans ((up_c (nn rfl)).trans ((upc_c (by omega)).trans ((upc_c (by omega)).trans ((up_c (nn rfl)).trans ((up_c (nn rfl)).trans ((up_c (nn rfl)).trans ((upc_c (by omega)).trans (upc_c (by omega))))))))))
    have h_17 := ir_41_2 hI
    have h_18 : (up (up (upc (upc (up (up (up (upc (upc c 38 0 5 (578 * c 3 4) 34) 4 0 5 (578 * c 3 4 + 34) (34 * c 3 3)) 6 (c 3 4) (c 3 3)) 3 4 (c 3 4 + 1)) 41 0 0) 58 0 66 (630 * c 41 52) 37) 60 0 66 (630 * c 41 52 + 37) 592) 66 (630 * c 41 52 + 629) (c 41 35)) 41 52 (c 41 52 + 1)) 41 2 = c 41 2 := ((up_n (by decide)).trans ((up_c (nn rfl)).trans ((upc_c (by omega)).trans ((upc_c (by omega)).trans ((up_n (by decide)).trans ((up_c (nn rfl)).trans ((up_c (nn rfl)).trans ((upc_c (by omega)).trans (upc_c (by omega))))))))))
    have h_19 : (up (up (upc (upc (up (up (up (upc (upc c 38 0 5 (578 * c 3 4) 34) 4 0 5 (578 * c 3 4 + 34) (34 * c 3 3)) 6 (c 3 4) (c 3 3)) 3 4 (c 3 4 + 1)) 41 0 0) 58 0 66 (630 * c 41 52) 37) 60 0 66 (630 * c 41 52 + 37) 592) 66 (630 * c 41 52 + 629) (c 41 35)) 41 52 (c 41 52 + 1)) P 0 = n0 := ((up_c (np0 hP rfl)).trans ((up_c (np0 hP rfl)).trans ((upc_c (by omega)).trans ((upc_c (by omega)).trans ((up_c (np0 hP rfl)).trans ((up_c (np0 hP rfl)).trans ((up_c (np0 hP rfl)).trans ((upc_c (by omega)).trans ((upc_c (by omega)).trans (hn0))))))))))
    have h_20 : (up (up (upc (upc (up (up (up (upc (upc c 38 0 5 (578 * c 3 4) 34) 4 0 5 (578 * c 3 4 + 34) (34 * c 3 3)) 6 (c 3 4) (c 3 3)) 3 4 (c 3 4 + 1)) 41 0 0) 58 0 66 (630 * c 41 52) 37) 60 0 66 (630 * c 41 52 + 37) 592) 66 (630 * c 41 52 + 629) (c 41 35)) 41 52 (c 41 52 + 1)) 41 20 = n0 := ((up_n (by decide)).trans ((up_c (nn rfl)).trans ((upc_c (by omega)).trans ((upc_c (by omega)).trans ((up_n (by decide)).trans ((up_c (nn rfl)).trans ((up_c (nn rfl)).trans ((upc_c (by omega)).trans ((upc_c (by omega)).trans (hm0))))))))))
    have h_21 : (up (up (upc (upc (up (up (up (upc (upc c 38 0 5 (578 * c 3 4) 34) 4 0 5 (578 * c 3 4 + 34) (34 * c 3 3)) 6 (c 3 4) (c 3 3)) 3 4 (c 3 4 + 1)) 41 0 0) 58 0 66 (630 * c 41 52) 37) 60 0 66 (630 * c 41 52 + 37) 592) 66 (630 * c 41 52 + 629) (c 41 35)) 41 52 (c 41 52 + 1)) P 1 = n1 := ((up_c (np0 hP rfl)).trans ((up_c (np0 hP rfl)).trans ((upc_c (by omega)).trans ((upc_c (by omega)).trans ((up_c (np0 hP rfl)).trans ((up_c (np0 hP rfl)).trans ((up_c (np0 hP rfl)).trans ((upc_c (by omega)).trans ((upc_c (by omega)).trans (hn1))))))))))
    have h_22 : (up (up (upc (upc (up (up (up (upc (upc c 38 0 5 (578 * c 3 4) 34) 4 0 5 (578 * c 3 4 + 34) (34 * c 3 3)) 6 (c 3 4) (c 3 3)) 3 4 (c 3 4 + 1)) 41 0 0) 58 0 66 (630 * c 41 52) 37) 60 0 66 (630 * c 41 52 + 37) 592) 66 (630 * c 41 52 + 629) (c 41 35)) 41 52 (c 41 52 + 1)) 41 21 = n1 := ((up_n (by decide)).trans ((up_c (nn rfl)).trans ((upc_c (by omega)).trans ((upc_c (by omega)).trans ((up_n (by decide)).trans ((up_c (nn rfl)).trans ((up_c (nn rfl)).trans ((upc_c (by omega)).trans ((upc_c (by omega)).trans (hm1))))))))))
    have h_23 : (up (up (upc (upc (up (up (up (upc (upc c 38 0 5 (578 * c 3 4) 34) 4 0 5 (578 * c 3 4 + 34) (34 * c 3 3)) 6 (c 3 4) (c 3 3)) 3 4 (c 3 4 + 1)) 41 0 0) 58 0 66 (630 * c 41 52) 37) 60 0 66 (630 * c 41 52 + 37) 592) 66 (630 * c 41 52 + 629) (c 41 35)) 41 52 (c 41 52 + 1)) P 2 = n2 := ((up_c (np0 hP rfl)).trans ((up_c (np0 hP rfl)).trans ((upc_c (by omega)).trans ((upc_c (by omega)).trans ((up_c (np0 hP rfl)).trans ((up_c (np0 hP rfl)).trans ((up_c (np0 hP rfl)).trans ((upc_c (by omega)).trans ((upc_c (by omega)).trans (hn2))))))))))
    have h_24 : (up (up (upc (upc (up (up (up (upc (upc c 38 0 5 (578 * c 3 4) 34) 4 0 5 (578 * c 3 4 + 34) (34 * c 3 3)) 6 (c 3 4) (c 3 3)) 3 4 (c 3 4 + 1)) 41 0 0) 58 0 66 (630 * c 41 52) 37) 60 0 66 (630 * c 41 52 + 37) 592) 66 (630 * c 41 52 + 629) (c 41 35)) 41 52 (c 41 52 + 1)) 41 22 = n2 := ((up_n (by decide)).trans ((up_c (nn rfl)).trans ((upc_c (by omega)).trans ((upc_c (by omega)).trans ((up_n (by decide)).trans ((up_c (nn rfl)).trans ((up_c (nn rfl)).trans ((upc_c (by omega)).trans ((upc_c (by omega)).trans (hm2))))))))))
    have h_25 : (up (up (upc (upc (up (up (up (upc (upc c 38 0 5 (578 * c 3 4) 34) 4 0 5 (578 * c 3 4 + 34) (34 * c 3 3)) 6 (c 3 4) (c 3 3)) 3 4 (c 3 4 + 1)) 41 0 0) 58 0 66 (630 * c 41 52) 37) 60 0 66 (630 * c 41 52 + 37) 592) 66 (630 * c 41 52 + 629) (c 41 35)) 41 52 (c 41 52 + 1)) P 3 = n3 := ((up_c (np0 hP rfl)).trans ((up_c (np0 hP rfl)).trans ((upc_c (by omega)).trans ((upc_c (by omega)).trans ((up_c (np0 hP rfl)).trans ((up_c (np0 hP rfl)).trans ((up_c (np0 hP rfl)).trans ((upc_c (by omega)).trans ((upc_c (by omega)).trans (hn3))))))))))
    have h_26 : (up (up (upc (upc (up (up (up (upc (upc c 38 0 5 (578 * c 3 4) 34) 4 0 5 (578 * c 3 4 + 34) (34 * c 3 3)) 6 (c 3 4) (c 3 3)) 3 4 (c 3 4 + 1)) 41 0 0) 58 0 66 (630 * c 41 52) 37) 60 0 66 (630 * c 41 52 + 37) 592) 66 (630 * c 41 52 + 629) (c 41 35)) 41 52 (c 41 52 + 1)) 41 23 = n3 := ((up_n (by decide)).trans ((up_c (nn rfl)).trans ((upc_c (by omega)).trans ((upc_c (by omega)).trans ((up_n (by decide)).trans ((up_c (nn rfl)).trans ((up_c (nn rfl)).trans ((upc_c (by omega)).trans ((upc_c (by omega)).trans (hm3))))))))))
    have h_27 : (up (up (upc (upc (up (up (up (upc (upc c 38 0 5 (578 * c 3 4) 34) 4 0 5 (578 * c 3 4 + 34) (34 * c 3 3)) 6 (c 3 4) (c 3 3)) 3 4 (c 3 4 + 1)) 41 0 0) 58 0 66 (630 * c 41 52) 37) 60 0 66 (630 * c 41 52 + 37) 592) 66 (630 * c 41 52 + 629) (c 41 35)) 41 52 (c 41 52 + 1)) 3 4 = c 3 4 + 1 := ((up_c (nn rfl)).trans ((up_c (nn rfl)).trans ((upc_c (by omega)).trans ((upc_c (by omega)).trans ((up_c (nn rfl)).trans (up_e rfl))))))
    have h_28 : (up (up (upc (upc (up (up (up (upc (upc c 38 0 5 (578 * c 3 4) 34) 4 0 5 (578 * c 3 4 + 34) (34 * c 3 3)) 6 (c 3 4) (c 3 3)) 3 4 (c 3 4 + 1)) 41 0 0) 58 0 66 (630 * c 41 52) 37) 60 0 66 (630 * c 41 52 + 37) 592) 66 (630 * c 41 52 + 629) (c 41 35)) 41 52 (c 41 52 + 1)) 41 52 = c 41 52 + 1 := (up_e rfl)
    have h_29 : (up (up (upc (upc (up (up (up (upc (upc c 38 0 5 (578 * c 3 4) 34) 4 0 5 (578 * c 3 4 + 34) (34 * c 3 3)) 6 (c 3 4) (c 3 3)) 3 4 (c 3 4 + 1)) 41 0 0) 58 0 66 (630 * c 41 52) 37) 60 0 66 (630 * c 41 52 + 37) 592) 66 (630 * c 41 52 + 629) (c 41 35)) 41 52 (c 41 52 + 1)) 3 3 = c 3 3 := ((up_c (nn rfl)).trans ((up_c (nn rfl)).trans ((upc_c (by omega)).trans ((upc_c (by omega)).trans ((up_c (nn rfl)).trans ((up_n (by decide)).trans ((up_c (nn rfl)).trans ((upc_c (by omega)).trans (upc_c (by omega))))))))))
    have h_30 : (up (up (upc (upc (up (up (up (upc (upc c 38 0 5 (578 * c 3 4) 34) 4 0 5 (578 * c 3 4 + 34) (34 * c 3 3)) 6 (c 3 4) (c 3 3)) 3 4 (c 3 4 + 1)) 41 0 0) 58 0 66 (630 * c 41 52) 37) 60 0 66 (630 * c 41 52 + 37) 592) 66 (630 * c 41 52 + 629) (c 41 35)) 41 52 (c 41 52 + 1)) 41 35 = c 41 35 := ((up_n (by decide)).trans ((up_c (nn rfl)).trans ((upc_c (by omega)).trans ((upc_c (by omega)).trans ((up_n (by decide)).trans ((up_c (nn rfl)).trans ((up_c (nn rfl)).trans ((upc_c (by omega)).trans (upc_c (by omega))))))))))
    have h_31 : (up (up (upc (upc (up (up (up (upc (upc c 38 0 5 (578 * c 3 4) 34) 4 0 5 (578 * c 3 4 + 34) (34 * c 3 3)) 6 (c 3 4) (c 3 3)) 3 4 (c 3 4 + 1)) 41 0 0) 58 0 66 (630 * c 41 52) 37) 60 0 66 (630 * c 41 52 + 37) 592) 66 (630 * c 41 52 + 629) (c 41 35)) 41 52 (c 41 52 + 1)) 3 4 = c 3 4 + 1 := ((up_c (nn rfl)).trans ((up_c (nn rfl)).trans ((upc_c (by omega)).trans ((upc_c (by omega)).trans ((up_c (nn rfl)).trans (up_e rfl))))))
    exact K P Q (up (up (upc (upc (up (up (up (upc (upc c 38 0 5 (578 * c 3 4) 34) 4 0 5 (578 * c 3 4 + 34) (34 * c 3 3)) 6 (c 3 4) (c 3 3)) 3 4 (c 3 4 + 1)) 41 0 0) 58 0 66 (630 * c 41 52) 37) 60 0 66 (630 * c 41 52 + 37) 592) 66 (630 * c 41 52 + 629) (c 41 35)) 41 52 (c 41 52 + 1)) 0 (by decide) hI_14 ⟨by omega, ub_fr hU (fun j => (up_c (nn rfl)).trans ((up_c (nn rfl)).trans ((upc_c (nn rfl)).trans ((upc_c (nn rfl)).trans ((up_c (nn rfl)).trans ((up_c (nn rfl)).trans ((up_c (nn rfl)).trans ((upc_c (nn rfl)).trans (upc_c (nn rfl)))))))))) (fun j => (up_c (nn rfl)).trans ((up_c (nn rfl)).trans ((upc_c (nn rfl)).trans ((upc_c (nn rfl)).trans ((up_c (nn rfl)).trans ((up_c (nn rfl)).trans ((up_c (nn rfl)).trans ((upc_c (nn rfl)).trans (upc_c (nn rfl)))))))))), ⟨by omega, by omega, by omega, by omega⟩, by omega, by omega, iw_w (n := c 3 4) hIw (by omega) ((show (up (up (upc (upc (up (up (up (upc (upc c 38 0 5 (578 * c 3 4) 34) 4 0 5 (578 * c 3 4 + 34) (34 * c 3 3)) 6 (c 3 4) (c 3 3)) 3 4 (c 3 4 + 1)) 41 0 0) 58 0 66 (630 * c 41 52) 37) 60 0 66 (630 * c 41 52 + 37) 592) 66 (630 * c 41 52 + 629) (c 41 35)) 41 52 (c 41 52 + 1)) 6 (c 3 4) = c 3 3 from ((up_c (nn rfl)).trans ((up_c (nn rfl)).trans ((upc_c (by omega)).trans ((upc_c (by omega)).trans ((up_c (nn rfl)).trans ((up_c (nn rfl)).trans (up_e rfl)))))))).trans ((show c 3 3 = c 41 35 from by omega).trans (show (up (up (upc (upc (up (up (up (upc (upc c 38 0 5 (578 * c 3 4) 34) 4 0 5 (578 * c 3 4 + 34) (34 * c 3 3)) 6 (c 3 4) (c 3 3)) 3 4 (c 3 4 + 1)) 41 0 0) 58 0 66 (630 * c 41 52) 37) 60 0 66 (630 * c 41 52 + 37) 592) 66 (630 * c 41 52 + 629) (c 41 35)) 41 52 (c 41 52 + 1)) 66 (630 * (c 3 4) + 629) = c 41 35 from ((congrArg ((up (up (upc (upc (up (up (up (upc (upc c 38 0 5 (578 * c 3 4) 34) 4 0 5 (578 * c 3 4 + 34) (34 * c 3 3)) 6 (c 3 4) (c 3 3)) 3 4 (c 3 4 + 1)) 41 0 0) 58 0 66 (630 * c 41 52) 37) 60 0 66 (630 * c 41 52 + 37) 592) 66 (630 * c 41 52 + 629) (c 41 35)) 41 52 (c 41 52 + 1)) 66) (show 630 * (c 3 4) + 629 = 630 * c 3 4 + 629 from by omega)).trans (((up_c (nn rfl)).trans (up_e (by first | assumption | exact Int.le_antisymm (by first | (clear hT hNwk h_1 h_3 h_4 h_5 h_15 h_17 h_2; omega) | omega) (by first | (clear hT hNwk h_1 h_3 h_4 h_5 h_15 h_17 h_2; omega) | omega))))))).symm)) (fun j hj => (up_c (nn rfl)).trans ((up_c (nn rfl)).trans ((upc_c (nn rfl)).trans ((upc_c (nn rfl)).trans ((up_c (nn rfl)).trans ((up_c (nn rfl)).trans ((up_n (by omega)).trans ((upc_c (nn rfl)).trans (upc_c (nn rfl)))))))))) (fun j h1 h2 => (up_c (nn rfl)).trans ((up_n (by omega)).trans ((upc_n (by omega)).trans ((upc_n (by omega)).trans ((up_c (nn rfl)).trans ((up_c (nn rfl)).trans ((up_c (nn rfl)).trans ((upc_c (nn rfl)).trans (upc_c (nn rfl))))))))))⟩
  · refine v_ic_ne_f (t := 13) c_140_8 rfl (Decidable.not_not.mp h_2) (q_iconst c_140_11 (q_iret c_140_12 rfl (bk_inl (q_pop c_296_1744 rfl (q_aload_n c_296_1745 rfl (v_cv c_296_1746 km_9_259 rfl rfl (Nat.le_of_ble_eq_true rfl) ⟨⟨rfl, rfl⟩, Nat.le_of_ble_eq_true rfl, rfl⟩ (Nat.le_of_ble_eq_true rfl) (Nat.le_of_ble_eq_true rfl) (q_aload_n c_259_0 rfl ?_)))))))
    refine q_iconst c_259_1 (v_pi (z := 0) c_259_2 kf_8_3 rfl (Nat.le_of_ble_eq_true rfl) rfl rfl rfl (by decide) (q_aload_n c_259_5 rfl ?_))
    have h_32 := ir_41_52 hI
    refine v_gi (z := 52) (v := c 41 52) c_259_6 kf_8_185 rfl (Nat.le_of_ble_eq_true rfl) rfl rfl (up_n (by decide)) (q_iconst c_259_9 (v_ic_ne_f (t := 15) c_259_10 rfl (by omega) (q_iconst c_259_13 (q_iret c_259_14 rfl (bk_inl (q_pop c_296_1749 rfl (q_goto (t := 1816) c_296_1750 rfl ?_)))))))
    have hI_33 := iw_41_0 (v := 0) hI ⟨by decide, by decide⟩
    refine Wp_ls [(4, vi (i0 : Int)), (3, .ref 67), (2, .ref 41), (1, .ref 0), (0, .ref a_SC)] (lsub_cons rfl (lsub_cons rfl (lsub_cons rfl (lsub_cons rfl (lsub_cons rfl lsub_nil))))) ?_
    have h_34 := ir_1_3 hI
    have h_35 : (up c 41 0 0) 1 3 = c 1 3 := (up_c (nn rfl))
    have h_36 := ir_41_2 hI
    have h_37 : (up c 41 0 0) 41 2 = c 41 2 := (up_n (by decide))
    have h_38 : (up c 41 0 0) P 0 = n0 := ((up_c (np0 hP rfl)).trans (hn0))
    have h_39 : (up c 41 0 0) 41 20 = n0 := ((up_n (by decide)).trans (hm0))
    have h_40 : (up c 41 0 0) P 1 = n1 := ((up_c (np0 hP rfl)).trans (hn1))
    have h_41 : (up c 41 0 0) 41 21 = n1 := ((up_n (by decide)).trans (hm1))
    have h_42 : (up c 41 0 0) P 2 = n2 := ((up_c (np0 hP rfl)).trans (hn2))
    have h_43 : (up c 41 0 0) 41 22 = n2 := ((up_n (by decide)).trans (hm2))
    have h_44 : (up c 41 0 0) P 3 = n3 := ((up_c (np0 hP rfl)).trans (hn3))
    have h_45 : (up c 41 0 0) 41 23 = n3 := ((up_n (by decide)).trans (hm3))
    have h_46 : (up c 41 0 0) 3 4 = c 3 4 := (up_c (nn rfl))
    have h_47 : (up c 41 0 0) 41 52 = c 41 52 := (up_n (by decide))
    have h_48 := ir_3_3 hI
    have h_49 : (up c 41 0 0) 3 3 = c 3 3 := (up_c (nn rfl))
    have h_50 := ir_41_35 hI
    have h_51 : (up c 41 0 0) 41 35 = c 41 35 := (up_n (by decide))
    have h_52 : (up c 41 0 0) 3 4 = c 3 4 := (up_c (nn rfl))
    exact K P Q (up c 41 0 0) 0 (by decide) hI_33 ⟨by omega, ub_fr hU (fun j => up_c (nn rfl)) (fun j => up_c (nn rfl)), ⟨by omega, by omega, by omega, by omega⟩, by omega, by omega, iw_fr2 hIw (by omega) (fun j => up_c (nn rfl)) (fun j => up_c (nn rfl))⟩

set_option maxRecDepth 100000 in
set_option maxHeartbeats 4000000 in
theorem o_40 {xs : Nat → Int32} {L i0 d nc ns P Q : Nat} {c : ME} {Z : AR → Prop} (hi : i0 + 8 ≤ L) (hL : L ≤ 100000) (hI : Iv 0 (-1) P Q c) (hR : Rq P c) (K : ∀ (P2 Q2 : Nat) (c2 : ME) (e : Nat), e ≤ 1 → Iv 0 (-1) P2 Q2 c2 → (Rq P2 c2) → Wp (a_scr L xs) (d + 90) 296 1816 [(4, vi (i0 : Int)), (3, .ref 67), (2, .ref 41), (1, .ref 0), (0, .ref a_SC)] [] (Wd P2 Q2 P2 P2 c2) (nc + e) (ns + 6 * e) Z) : Wp (a_scr L xs) (d + 90) 296 1753 [(4, vi (i0 : Int)), (3, .ref 67), (2, .ref 41), (1, .ref 0), (0, .ref a_SC)] [] (Wd P Q P P c) nc ns Z := by
  obtain ⟨x1, hx1⟩ : ∃ z, (xs (i0 + 1)).toInt = z := ⟨_, rfl⟩
  have x1r := c_rng (xs (i0 + 1))
  rw [hx1] at x1r
  obtain ⟨x2, hx2⟩ : ∃ z, (xs (i0 + 2)).toInt = z := ⟨_, rfl⟩
  have x2r := c_rng (xs (i0 + 2))
  rw [hx2] at x2r
  obtain ⟨x3, hx3⟩ : ∃ z, (xs (i0 + 3)).toInt = z := ⟨_, rfl⟩
  have x3r := c_rng (xs (i0 + 3))
  rw [hx3] at x3r
  obtain ⟨x4, hx4⟩ : ∃ z, (xs (i0 + 4)).toInt = z := ⟨_, rfl⟩
  have x4r := c_rng (xs (i0 + 4))
  rw [hx4] at x4r
  obtain ⟨x5, hx5⟩ : ∃ z, (xs (i0 + 5)).toInt = z := ⟨_, rfl⟩
  have x5r := c_rng (xs (i0 + 5))
  rw [hx5] at x5r
  obtain ⟨x6, hx6⟩ : ∃ z, (xs (i0 + 6)).toInt = z := ⟨_, rfl⟩
  have x6r := c_rng (xs (i0 + 6))
  rw [hx6] at x6r
  obtain ⟨x7, hx7⟩ : ∃ z, (xs (i0 + 7)).toInt = z := ⟨_, rfl⟩
  have x7r := c_rng (xs (i0 + 7))
  rw [hx7] at x7r
  have hP := iv_P hI
  have hQ := iv_Q hI
  have hT := rl_t hR
  have hU := rl_u hR
  obtain ⟨n0, hn0⟩ : ∃ z, c P 0 = z := ⟨_, rfl⟩
  have hm0 : c 41 20 = n0 := (rl_nums hR).1.symm.trans hn0
  have hr0 := ir_p0_0 hI hP
  rw [hn0] at hr0
  obtain ⟨n1, hn1⟩ : ∃ z, c P 1 = z := ⟨_, rfl⟩
  have hm1 : c 41 21 = n1 := (rl_nums hR).2.1.symm.trans hn1
  have hr1 := ir_p0_1 hI hP
  rw [hn1] at hr1
  obtain ⟨n2, hn2⟩ : ∃ z, c P 2 = z := ⟨_, rfl⟩
  have hm2 : c 41 22 = n2 := (rl_nums hR).2.2.1.symm.trans hn2
  have hr2 := ir_p0_2 hI hP
  rw [hn2] at hr2
  obtain ⟨n3, hn3⟩ : ∃ z, c P 3 = z := ⟨_, rfl⟩
  have hm3 : c 41 23 = n3 := (rl_nums hR).2.2.2.symm.trans hn3
  have hr3 := ir_p0_3 hI hP
  rw [hn3] at hr3
  have hNimg := rl_img hR
  have hNwk := rl_wk hR
  have h_1 := ir_3_4 hI
  have hIw := rl_iw hR
  refine q_aload_n c_296_1753 rfl (v_cv c_296_1754 km_9_260 rfl rfl (Nat.le_of_ble_eq_true rfl) ⟨⟨rfl, rfl⟩, Nat.le_of_ble_eq_true rfl, rfl⟩ (Nat.le_of_ble_eq_true rfl) (Nat.le_of_ble_eq_true rfl) (q_aload_n c_141_0 rfl (v_gr (t := 3) c_141_1 kf_7_19 rfl (Nat.le_of_ble_eq_true rfl) rfl (v_gi (z := 4) (v := c 3 4) c_141_4 kf_7_318 rfl (Nat.le_of_ble_eq_true rfl) rfl rfl rfl ?_))))
  by_cases h_2 : c 3 4 ≠ 0
  · refine v_if_ne_t (t := 12) c_141_7 rfl ⟨h_2, ⟨(Int.le_trans (by decide) h_1.1), (Int.le_trans h_1.2 (by decide))⟩, by decide, by decide⟩ (q_aload_n c_141_12 rfl (v_gr (t := 3) c_141_13 kf_7_19 rfl (Nat.le_of_ble_eq_true rfl) rfl (q_aload_n c_141_16 rfl (v_gr (t := 37) c_141_17 kf_7_62 rfl (Nat.le_of_ble_eq_true rfl) rfl (v_cv c_141_20 km_7_324 rfl rfl (Nat.le_of_ble_eq_true rfl) ⟨⟨rfl, rfl⟩, Nat.le_of_ble_eq_true rfl, rfl⟩ (Nat.le_of_ble_eq_true rfl) (Nat.le_of_ble_eq_true rfl) (q_aload_n c_27_0 rfl (v_gi (z := 4) (v := c 3 4) c_27_1 kf_1_25 rfl (Nat.le_of_ble_eq_true rfl) rfl rfl rfl ?_)))))))
    refine v_if_le_f (t := 77) c_27_4 rfl ⟨by decide, by first | exact q_c6195508a h_1 h_2 | omega, (Int.le_trans h_1.2 (by decide))⟩ (q_aload_n c_27_7 rfl (q_dup c_27_8 rfl (v_gi (z := 4) (v := c 3 4) c_27_9 kf_1_25 rfl (Nat.le_of_ble_eq_true rfl) rfl rfl rfl (q_iconst c_27_12 (v_isub (v := c 3 4 - 1) c_27_13 rfl (v_pi (z := 4) c_27_14 kf_1_25 rfl (Nat.le_of_ble_eq_true rfl) rfl rfl rfl (by decide) (q_aload_n c_27_17 rfl ?_)))))))
    refine q_aload_n c_27_18 rfl (v_gr (t := 6) c_27_19 kf_1_18 rfl (Nat.le_of_ble_eq_true rfl) rfl (q_aload_n c_27_22 rfl (v_gi (z := 4) (v := c 3 4 - 1) c_27_23 kf_1_25 rfl (Nat.le_of_ble_eq_true rfl) rfl rfl (up_e rfl) ?_)))
    have h_3 := ir_6 hI (c 3 4 - 1)
    refine v_ia (v := c 6 (c 3 4 - 1)) c_27_26 rfl (by decide) (by decide) ⟨by first | exact q_69cb20f07 h_1 h_2 | omega, by first | exact q_6660ef6d1 h_1 | (clear hT hNimg hNwk h_3 h_2; omega) | omega⟩ (up_c (nn rfl)) (v_pi (z := 3) c_27_27 kf_1_21 rfl (Nat.le_of_ble_eq_true rfl) rfl rfl rfl (by decide) (q_aload_n c_27_30 rfl (v_gi (z := 4) (v := c 3 4 - 1) c_27_31 kf_1_25 rfl (Nat.le_of_ble_eq_true rfl) rfl rfl ((up_n (by decide)).trans (up_e rfl)) (v_sip c_27_34 (by decide) (v_imul (v := 578 * c 3 4 - 578) c_27_37 (by first | (clear hT hNimg hNwk h_1 h_3 h_2; omega) | omega) (q_istore_n c_27_38 (Nat.le_of_ble_eq_true rfl) (q_aload_n c_27_39 rfl ?_)))))))
    refine v_gr (t := 5) c_27_40 kf_1_15 rfl (Nat.le_of_ble_eq_true rfl) rfl (q_iload_n c_27_43 rfl (q_aload_n c_27_44 rfl (v_gr (t := 38) c_27_45 kf_1_32 rfl (Nat.le_of_ble_eq_true rfl) rfl (q_iconst c_27_48 (v_bip c_27_49 (by decide) (v_cpy c_27_51 rfl rfl (by decide) rfl (by decide) rfl rfl (by omega) (Nat.le_of_ble_eq_true rfl) (by omega) (q_aload_n c_27_54 rfl ?_)))))))
    refine v_gr (t := 5) c_27_55 kf_1_15 rfl (Nat.le_of_ble_eq_true rfl) rfl (q_iload_n c_27_58 rfl (v_bip c_27_59 (by decide) (v_iadd (v := 578 * c 3 4 - 544) c_27_61 (by first | (clear hT hNimg hNwk h_1 h_3 h_2; omega) | omega) (q_aload_n c_27_62 rfl (v_gr (t := 4) c_27_63 kf_1_11 rfl (Nat.le_of_ble_eq_true rfl) rfl (q_iconst c_27_66 (q_aload_n c_27_67 rfl ?_)))))))
    refine v_gi (z := 3) (v := c 6 (c 3 4 - 1)) c_27_68 kf_1_21 rfl (Nat.le_of_ble_eq_true rfl) rfl rfl ((upc_c (by omega)).trans (up_e rfl)) (v_bip c_27_71 (by decide) (v_imul (v := 34 * c 6 (c 3 4 - 1)) c_27_73 (by first | (clear hT hNimg hNwk h_1 h_3 h_2; omega) | omega) (v_cpy c_27_74 rfl rfl (by decide) rfl (by decide) rfl rfl (by omega) (Nat.le_of_ble_eq_true rfl) (by omega) (q_vret rfl rfl (bk_inl (q_aload_n c_141_23 rfl (q_iconst c_141_24 ?_)))))))
    refine v_pi (z := 11) c_141_25 kf_7_99 rfl (Nat.le_of_ble_eq_true rfl) rfl rfl rfl (by decide) (q_aload_n c_141_28 rfl (v_gr (t := 3) c_141_29 kf_7_19 rfl (Nat.le_of_ble_eq_true rfl) rfl (v_gi (z := 4) (v := c 3 4 - 1) c_141_32 kf_7_318 rfl (Nat.le_of_ble_eq_true rfl) rfl rfl ((up_c (nn rfl)).trans ((upc_c (by omega)).trans ((upc_c (by omega)).trans ((up_n (by decide)).trans (up_e rfl))))) (q_iret c_141_35 rfl (bk_inl (q_pop c_296_1757 rfl (q_aload_n c_296_1758 rfl ?_)))))))
    refine v_cv c_296_1759 km_9_263 rfl rfl (Nat.le_of_ble_eq_true rfl) ⟨⟨rfl, rfl⟩, Nat.le_of_ble_eq_true rfl, rfl⟩ (Nat.le_of_ble_eq_true rfl) (Nat.le_of_ble_eq_true rfl) (q_aload_n c_260_0 rfl (q_iconst c_260_1 (v_pi (z := 0) c_260_2 kf_8_3 rfl (Nat.le_of_ble_eq_true rfl) rfl rfl rfl (by decide) (q_aload_n c_260_5 rfl ?_))))
    have h_4 := ir_41_52 hI
    refine v_gi (z := 52) (v := c 41 52) c_260_6 kf_8_185 rfl (Nat.le_of_ble_eq_true rfl) rfl rfl ((up_n (by decide)).trans ((up_c (nn rfl)).trans ((upc_c (by omega)).trans ((upc_c (by omega)).trans ((up_c (nn rfl)).trans (up_c (nn rfl))))))) (v_if_ne_t (t := 14) c_260_9 rfl ⟨by omega, ⟨(Int.le_trans (by decide) h_4.1), (Int.le_trans h_4.2 (by decide))⟩, by decide, by decide⟩ (q_aload_n c_260_14 rfl (q_dup c_260_15 rfl (v_gi (z := 52) (v := c 41 52) c_260_16 kf_8_185 rfl (Nat.le_of_ble_eq_true rfl) rfl rfl ((up_n (by decide)).trans ((up_c (nn rfl)).trans ((upc_c (by omega)).trans ((upc_c (by omega)).trans ((up_c (nn rfl)).trans (up_c (nn rfl))))))) (q_iconst c_260_19 (v_isub (v := c 41 52 - 1) c_260_20 rfl (v_pi (z := 52) c_260_21 kf_8_185 rfl (Nat.le_of_ble_eq_true rfl) rfl rfl rfl (by decide) ?_)))))))
    refine q_aload_n c_260_24 rfl (q_aload_n c_260_25 rfl (v_gi (z := 52) (v := c 41 52 - 1) c_260_26 kf_8_185 rfl (Nat.le_of_ble_eq_true rfl) rfl rfl (up_e rfl) (q_iconst c_260_29 (v_cv c_260_30 km_8_456 rfl rfl (Nat.le_of_ble_eq_true rfl) ⟨⟨rfl, rfl⟩, Nat.le_of_ble_eq_true rfl, rfl⟩ (Nat.le_of_ble_eq_true rfl) (Nat.le_of_ble_eq_true rfl) (q_aload_n c_258_0 rfl (v_sip c_258_1 (by decide) (q_iload_n c_258_4 rfl ?_)))))))
    refine v_imul (v := 630 * c 41 52 - 630) c_258_5 (by first | (clear hT hNimg hNwk h_1 h_3 h_4 h_2; omega) | omega) (q_aload_n c_258_6 rfl (v_gr (t := 58) c_258_7 kf_8_65 rfl (Nat.le_of_ble_eq_true rfl) rfl (v_bip c_258_10 (by decide) (q_iload_n c_258_12 rfl (v_cv c_258_13 km_8_452 rfl rfl (Nat.le_of_ble_eq_true rfl) ⟨⟨rfl, rfl⟩, Nat.le_of_ble_eq_true rfl, rfl⟩ (Nat.le_of_ble_eq_true rfl) (Nat.le_of_ble_eq_true rfl) (s_257r (t := 58) (nt := 37) (q := 630 * c 41 52 - 630) (n := 37) (v := 630 * c 41 52 - 593) rfl (by decide) (by decide) (by decide) (by omega) (by omega) (by omega) (bk_inl (q_istore_n c_258_16 (Nat.le_of_ble_eq_true rfl) ?_))))))))
    refine q_aload_n c_258_17 rfl (q_iload_n c_258_18 rfl (q_aload_n c_258_19 rfl (v_gr (t := 60) c_258_20 kf_8_71 rfl (Nat.le_of_ble_eq_true rfl) rfl (v_sip c_258_23 (by decide) (q_iload_n c_258_26 rfl (v_cv c_258_27 km_8_452 rfl rfl (Nat.le_of_ble_eq_true rfl) ⟨⟨rfl, rfl⟩, Nat.le_of_ble_eq_true rfl, rfl⟩ (Nat.le_of_ble_eq_true rfl) (Nat.le_of_ble_eq_true rfl) (s_257r (t := 60) (nt := 592) (q := 630 * c 41 52 - 593) (n := 592) (v := 630 * c 41 52 - 1) rfl (by decide) (by decide) (by decide) (by omega) (by omega) (by omega) (bk_inl ?_))))))))
    refine q_istore_n c_258_30 (Nat.le_of_ble_eq_true rfl) (q_iload_n c_258_31 rfl (v_if_eq_t (t := 48) c_258_32 rfl (by decide) (q_aload_n c_258_48 rfl (q_aload_n c_258_49 rfl (v_gr (t := 66) c_258_50 kf_8_90 rfl (Nat.le_of_ble_eq_true rfl) rfl (q_iload_n c_258_53 rfl ?_))))))
    have h_5 := ir_66 hI (630 * c 41 52 - 1)
    have h_6 := ir_66_9 hI (j := 630 * c 41 52 - 1) (by omega)
    have h_7 : c 6 (c 3 4 - 1) = c 66 (630 * c 41 52 - 1) := (hIw (c 3 4 - 1) (by omega) (by omega)).trans (congrArg (c 66) (by omega))
    refine v_ia (v := c 66 (630 * c 41 52 - 1)) c_258_54 rfl (by decide) (by decide) ⟨by omega, by first | exact q_7688c24dd h_4 | (clear hT hNimg hNwk h_1 h_3 h_5 h_6 h_7 h_2; omega) | omega⟩ ((upc_c (by omega)).trans ((upc_c (by omega)).trans ((up_c (nn rfl)).trans ((up_c (nn rfl)).trans ((up_c (nn rfl)).trans ((upc_c (by omega)).trans ((upc_c (by omega)).trans ((up_c (nn rfl)).trans (up_c (nn rfl)))))))))) (v_pi (z := 35) c_258_55 kf_8_182 rfl (Nat.le_of_ble_eq_true rfl) rfl rfl rfl (by decide) (q_vret rfl rfl (bk_inl (q_aload_n c_260_33 rfl (q_iconst c_260_34 (v_pi (z := 36) c_260_35 kf_8_188 rfl (Nat.le_of_ble_eq_true rfl) rfl rfl rfl (by decide) (q_aload_n c_260_38 rfl ?_)))))))
    refine v_gi (z := 52) (v := c 41 52 - 1) c_260_39 kf_8_185 rfl (Nat.le_of_ble_eq_true rfl) rfl rfl ((up_n (by decide)).trans ((up_n (by decide)).trans ((upc_c (by omega)).trans ((upc_c (by omega)).trans (up_e rfl))))) (q_iret c_260_42 rfl (bk_inl (q_pop c_296_1762 rfl (q_goto (t := 1816) c_296_1763 rfl ?_))))
    have hI_8 := iw_3_4 (v := c 3 4 - 1) hI ⟨by first | exact q_69cb20f07 h_1 h_2 | omega, by first | exact rgm_h h_1.2 (by decide) | omega⟩
    have hI_9 := iw_3_3 (v := c 6 (c 3 4 - 1)) hI_8 ⟨h_3.1, h_3.2⟩
    have hI_10 := cp_5_38 (w := 578 * c 3 4 - 578) (i := c 3 4 - 1) hI_9 (by omega) (by omega)
    have hI_11 := cp_5_4 (w := 578 * c 3 4 - 544) (i := c 3 4 - 1) (n := 34 * c 6 (c 3 4 - 1)) (k := c 6 (c 3 4 - 1)) hI_10 (by omega) (by omega) (by omega) (by omega)
    have hI_12 := iw_0_11 (v := 0) hI_11 ⟨by decide, by decide⟩
    have hI_13 := iw_41_0 (v := 0) hI_12 ⟨by decide, by decide⟩
    have hI_14 := iw_41_52 (v := c 41 52 - 1) hI_13 ⟨by omega, by first | exact rgm_h h_4.2 (by decide) | omega⟩
    have hI_15 := cp_66_58 (w := 630 * c 41 52 - 630) (i := c 41 52 - 1) hI_14 (by omega) (by omega)
    have hI_16 := cp_66_60 (w := 630 * c 41 52 - 593) (i := c 41 52 - 1) hI_15 (by omega) (by omega)
    have hI_17 := iw_41_35 (v := c 66 (630 * c 41 52 - 1)) hI_16 ⟨by first | (clear hT hNimg hNwk h_1 h_3 h_4 h_5 h_7 h_2; omega) | omega, by first | (clear hT hNimg hNwk h_1 h_3 h_4 h_5 h_7 h_2; omega) | omega⟩
    have hI_18 := iw_41_36 (v := 0) hI_17 ⟨by decide, by decide⟩
    refine Wp_ls [(4, vi (i0 : Int)), (3, .ref 67), (2, .ref 41), (1, .ref 0), (0, .ref a_SC)] (lsub_cons rfl (lsub_cons rfl (lsub_cons rfl (lsub_cons rfl (lsub_cons rfl lsub_nil))))) ?_
    have h_19 := ir_1_3 hI
    have h_20 : (up (up (upc (upc (up (up (up (upc (upc (up (up c 3 4 (c 3 4 - 1)) 3 3 (c 6 (c 3 4 - 1))) 5 (578 * c 3 4 - 578) 38 0 34) 5 (578 * c 3 4 - 544) 4 0 (34 * c 6 (c 3 4 - 1))) 0 11 0) 41 0 0) 41 52 (c 41 52 - 1)) 66 (630 * c 41 52 - 630) 58 0 37) 66 (630 * c 41 52 - 593) 60 0 592) 41 35 (c 66 (630 * c 41 52 - 1))) 41 36 0) 1 3 = c 1 3 := ((up_c (nn rfl)).trans ((up_c (nn rfl)).trans ((upc_c (by omega)).trans ((upc_c (by omega)).trans ((up_c (nn rfl)).trans ((up_c (nn rfl)).trans ((up_c (nn rfl)).trans ((upc_c (by omega)).trans ((upc_c (by omega)).trans ((up_c (nn rfl)).trans (up_c (nn rfl))))))))))))
    have h_21 := ir_41_2 hI
    have h_22 : (up (up (upc (upc (up (up (up (upc (upc (up (up c 3 4 (c 3 4 - 1)) 3 3 (c 6 (c 3 4 - 1))) 5 (578 * c 3 4 - 578) 38 0 34) 5 (578 * c 3 4 - 544) 4 0 (34 * c 6 (c 3 4 - 1))) 0 11 0) 41 0 0) 41 52 (c 41 52 - 1)) 66 (630 * c 41 52 - 630) 58 0 37) 66 (630 * c 41 52 - 593) 60 0 592) 41 35 (c 66 (630 * c 41 52 - 1))) 41 36 0) 41 2 = c 41 2 := ((up_n (by decide)).trans ((up_n (by decide)).trans ((upc_c (by omega)).trans ((upc_c (by omega)).trans ((up_n (by decide)).trans ((up_n (by decide)).trans ((up_c (nn rfl)).trans ((upc_c (by omega)).trans ((upc_c (by omega)).trans ((up_c (nn rfl)).trans (up_c (nn rfl))))))))))))
    have h_23 : (up (up (upc (upc (up (up (up (upc (upc (up (up c 3 4 (c 3 4 - 1)) 3 3 (c 6 (c 3 4 - 1))) 5 (578 * c 3 4 - 578) 38 0 34) 5 (578 * c 3 4 - 544) 4 0 (34 * c 6 (c 3 4 - 1))) 0 11 0) 41 0 0) 41 52 (c 41 52 - 1)) 66 (630 * c 41 52 - 630) 58 0 37) 66 (630 * c 41 52 - 593) 60 0 592) 41 35 (c 66 (630 * c 41 52 - 1))) 41 36 0) P 0 = n0 := ((up_c (np0 hP rfl)).trans ((up_c (np0 hP rfl)).trans ((upc_c (by omega)).trans ((upc_c (by omega)).trans ((up_c (np0 hP rfl)).trans ((up_c (np0 hP rfl)).trans ((up_c (np0 hP rfl)).trans ((upc_c (by omega)).trans ((upc_c (by omega)).trans ((up_c (np0 hP rfl)).trans ((up_c (np0 hP rfl)).trans (hn0))))))))))))
    have h_24 : (up (up (upc (upc (up (up (up (upc (upc (up (up c 3 4 (c 3 4 - 1)) 3 3 (c 6 (c 3 4 - 1))) 5 (578 * c 3 4 - 578) 38 0 34) 5 (578 * c 3 4 - 544) 4 0 (34 * c 6 (c 3 4 - 1))) 0 11 0) 41 0 0) 41 52 (c 41 52 - 1)) 66 (630 * c 41 52 - 630) 58 0 37) 66 (630 * c 41 52 - 593) 60 0 592) 41 35 (c 66 (630 * c 41 52 - 1))) 41 36 0) 41 20 = n0 := ((up_n (by decide)).trans ((up_n (by decide)).trans ((upc_c (by omega)).trans ((upc_c (by omega)).trans ((up_n (by decide)).trans ((up_n (by decide)).trans ((up_c (nn rfl)).trans ((upc_c (by omega)).trans ((upc_c (by omega)).trans ((up_c (nn rfl)).trans ((up_c (nn rfl)).trans (hm0))))))))))))
    have h_25 : (up (up (upc (upc (up (up (up (upc (upc (up (up c 3 4 (c 3 4 - 1)) 3 3 (c 6 (c 3 4 - 1))) 5 (578 * c 3 4 - 578) 38 0 34) 5 (578 * c 3 4 - 544) 4 0 (34 * c 6 (c 3 4 - 1))) 0 11 0) 41 0 0) 41 52 (c 41 52 - 1)) 66 (630 * c 41 52 - 630) 58 0 37) 66 (630 * c 41 52 - 593) 60 0 592) 41 35 (c 66 (630 * c 41 52 - 1))) 41 36 0) P 1 = n1 := ((up_c (np0 hP rfl)).trans ((up_c (np0 hP rfl)).trans ((upc_c (by omega)).trans ((upc_c (by omega)).trans ((up_c (np0 hP rfl)).trans ((up_c (np0 hP rfl)).trans ((up_c (np0 hP rfl)).trans ((upc_c (by omega)).trans ((upc_c (by omega)).trans ((up_c (np0 hP rfl)).trans ((up_c (np0 hP rfl)).trans (hn1))))))))))))
    have h_26 : (up (up (upc (upc (up (up (up (upc (upc (up (up c 3 4 (c 3 4 - 1)) 3 3 (c 6 (c 3 4 - 1))) 5 (578 * c 3 4 - 578) 38 0 34) 5 (578 * c 3 4 - 544) 4 0 (34 * c 6 (c 3 4 - 1))) 0 11 0) 41 0 0) 41 52 (c 41 52 - 1)) 66 (630 * c 41 52 - 630) 58 0 37) 66 (630 * c 41 52 - 593) 60 0 592) 41 35 (c 66 (630 * c 41 52 - 1))) 41 36 0) 41 21 = n1 := ((up_n (by decide)).trans ((up_n (by decide)).trans ((upc_c (by omega)).trans ((upc_c (by omega)).trans ((up_n (by decide)).trans ((up_n (by decide)).trans ((up_c (nn rfl)).trans ((upc_c (by omega)).trans ((upc_c (by omega)).trans ((up_c (nn rfl)).trans ((up_c (nn rfl)).trans (hm1))))))))))))
    have h_27 : (up (up (upc (upc (up (up (up (upc (upc (up (up c 3 4 (c 3 4 - 1)) 3 3 (c 6 (c 3 4 - 1))) 5 (578 * c 3 4 - 578) 38 0 34) 5 (578 * c 3 4 - 544) 4 0 (34 * c 6 (c 3 4 - 1))) 0 11 0) 41 0 0) 41 52 (c 41 52 - 1)) 66 (630 * c 41 52 - 630) 58 0 37) 66 (630 * c 41 52 - 593) 60 0 592) 41 35 (c 66 (630 * c 41 52 - 1))) 41 36 0) P 2 = n2 := ((up_c (np0 hP rfl)).trans ((up_c (np0 hP rfl)).trans ((upc_c (by omega)).trans ((upc_c (by omega)).trans ((up_c (np0 hP rfl)).trans ((up_c (np0 hP rfl)).trans ((up_c (np0 hP rfl)).trans ((upc_c (by omega)).trans ((upc_c (by omega)).trans ((up_c (np0 hP rfl)).trans ((up_c (np0 hP rfl)).trans (hn2))))))))))))
    have h_28 : (up (up (upc (upc (up (up (up (upc (upc (up (up c 3 4 (c 3 4 - 1)) 3 3 (c 6 (c 3 4 - 1))) 5 (578 * c 3 4 - 578) 38 0 34) 5 (578 * c 3 4 - 544) 4 0 (34 * c 6 (c 3 4 - 1))) 0 11 0) 41 0 0) 41 52 (c 41 52 - 1)) 66 (630 * c 41 52 - 630) 58 0 37) 66 (630 * c 41 52 - 593) 60 0 592) 41 35 (c 66 (630 * c 41 52 - 1))) 41 36 0) 41 22 = n2 := ((up_n (by decide)).trans ((up_n (by decide)).trans ((upc_c (by omega)).trans ((upc_c (by omega)).trans ((up_n (by decide)).trans ((up_n (by decide)).trans ((up_c (nn rfl)).trans ((upc_c (by omega)).trans ((upc_c (by omega)).trans ((up_c (nn rfl)).trans ((up_c (nn rfl)).trans (hm2))))))))))))
    have h_29 : (up (up (upc (upc (up (up (up (upc (upc (up (up c 3 4 (c 3 4 - 1)) 3 3 (c 6 (c 3 4 - 1))) 5 (578 * c 3 4 - 578) 38 0 34) 5 (578 * c 3 4 - 544) 4 0 (34 * c 6 (c 3 4 - 1))) 0 11 0) 41 0 0) 41 52 (c 41 52 - 1)) 66 (630 * c 41 52 - 630) 58 0 37) 66 (630 * c 41 52 - 593) 60 0 592) 41 35 (c 66 (630 * c 41 52 - 1))) 41 36 0) P 3 = n3 := ((up_c (np0 hP rfl)).trans ((up_c (np0 hP rfl)).trans ((upc_c (by omega)).trans ((upc_c (by omega)).trans ((up_c (np0 hP rfl)).trans ((up_c (np0 hP rfl)).trans ((up_c (np0 hP rfl)).trans ((upc_c (by omega)).trans ((upc_c (by omega)).trans ((up_c (np0 hP rfl)).trans ((up_c (np0 hP rfl)).trans (hn3))))))))))))
    have h_30 : (up (up (upc (upc (up (up (up (upc (upc (up (up c 3 4 (c 3 4 - 1)) 3 3 (c 6 (c 3 4 - 1))) 5 (578 * c 3 4 - 578) 38 0 34) 5 (578 * c 3 4 - 544) 4 0 (34 * c 6 (c 3 4 - 1))) 0 11 0) 41 0 0) 41 52 (c 41 52 - 1)) 66 (630 * c 41 52 - 630) 58 0 37) 66 (630 * c 41 52 - 593) 60 0 592) 41 35 (c 66 (630 * c 41 52 - 1))) 41 36 0) 41 23 = n3 := ((up_n (by decide)).trans ((up_n (by decide)).trans ((upc_c (by omega)).trans ((upc_c (by omega)).trans ((up_n (by decide)).trans ((up_n (by decide)).trans ((up_c (nn rfl)).trans ((upc_c (by omega)).trans ((upc_c (by omega)).trans ((up_c (nn rfl)).trans ((up_c (nn rfl)).trans (hm3))))))))))))
    have h_31 : (up (up (upc (upc (up (up (up (upc (upc (up (up c 3 4 (c 3 4 - 1)) 3 3 (c 6 (c 3 4 - 1))) 5 (578 * c 3 4 - 578) 38 0 34) 5 (578 * c 3 4 - 544) 4 0 (34 * c 6 (c 3 4 - 1))) 0 11 0) 41 0 0) 41 52 (c 41 52 - 1)) 66 (630 * c 41 52 - 630) 58 0 37) 66 (630 * c 41 52 - 593) 60 0 592) 41 35 (c 66 (630 * c 41 52 - 1))) 41 36 0) 3 4 = c 3 4 - 1 := ((up_c (nn rfl)).trans ((up_c (nn rfl)).trans ((upc_c (by omega)).trans ((upc_c (by omega)).trans ((up_c (nn rfl)).trans ((up_c (nn rfl)).trans ((up_c (nn rfl)).trans ((upc_c (by omega)).trans ((upc_c (by omega)).trans ((up_n (by decide)).trans (up_e rfl)))))))))))
    have h_32 : (up (up (upc (upc (up (up (up (upc (upc (up (up c 3 4 (c 3 4 - 1)) 3 3 (c 6 (c 3 4 - 1))) 5 (578 * c 3 4 - 578) 38 0 34) 5 (578 * c 3 4 - 544) 4 0 (34 * c 6 (c 3 4 - 1))) 0 11 0) 41 0 0) 41 52 (c 41 52 - 1)) 66 (630 * c 41 52 - 630) 58 0 37) 66 (630 * c 41 52 - 593) 60 0 592) 41 35 (c 66 (630 * c 41 52 - 1))) 41 36 0) 41 52 = c 41 52 - 1 := ((up_n (by decide)).trans ((up_n (by decide)).trans ((upc_c (by omega)).trans ((upc_c (by omega)).trans (up_e rfl)))))
    have h_33 : (up (up (upc (upc (up (up (up (upc (upc (up (up c 3 4 (c 3 4 - 1)) 3 3 (c 6 (c 3 4 - 1))) 5 (578 * c 3 4 - 578) 38 0 34) 5 (578 * c 3 4 - 544) 4 0 (34 * c 6 (c 3 4 - 1))) 0 11 0) 41 0 0) 41 52 (c 41 52 - 1)) 66 (630 * c 41 52 - 630) 58 0 37) 66 (630 * c 41 52 - 593) 60 0 592) 41 35 (c 66 (630 * c 41 52 - 1))) 41 36 0) 3 3 = c 6 (c 3 4 - 1) := ((up_c (nn rfl)).trans ((up_c (nn rfl)).trans ((upc_c (by omega)).trans ((upc_c (by omega)).trans ((up_c (nn rfl)).trans ((up_c (nn rfl)).trans ((up_c (nn rfl)).trans ((upc_c (by omega)).trans ((upc_c (by omega)).trans (up_e rfl))))))))))
    have h_34 : (up (up (upc (upc (up (up (up (upc (upc (up (up c 3 4 (c 3 4 - 1)) 3 3 (c 6 (c 3 4 - 1))) 5 (578 * c 3 4 - 578) 38 0 34) 5 (578 * c 3 4 - 544) 4 0 (34 * c 6 (c 3 4 - 1))) 0 11 0) 41 0 0) 41 52 (c 41 52 - 1)) 66 (630 * c 41 52 - 630) 58 0 37) 66 (630 * c 41 52 - 593) 60 0 592) 41 35 (c 66 (630 * c 41 52 - 1))) 41 36 0) 41 35 = c 66 (630 * c 41 52 - 1) := ((up_n (by decide)).trans (up_e rfl))
    have h_35 : (up (up (upc (upc (up (up (up (upc (upc (up (up c 3 4 (c 3 4 - 1)) 3 3 (c 6 (c 3 4 - 1))) 5 (578 * c 3 4 - 578) 38 0 34) 5 (578 * c 3 4 - 544) 4 0 (34 * c 6 (c 3 4 - 1))) 0 11 0) 41 0 0) 41 52 (c 41 52 - 1)) 66 (630 * c 41 52 - 630) 58 0 37) 66 (630 * c 41 52 - 593) 60 0 592) 41 35 (c 66 (630 * c 41 52 - 1))) 41 36 0) 3 4 = c 3 4 - 1 := ((up_c (nn rfl)).trans ((up_c (nn rfl)).trans ((upc_c (by omega)).trans ((upc_c (by omega)).trans ((up_c (nn rfl)).trans ((up_c (nn rfl)).trans ((up_c (nn rfl)).trans ((upc_c (by omega)).trans ((upc_c (by omega)).trans ((up_n (by decide)).trans (up_e rfl)))))))))))
    exact K P Q (up (up (upc (upc (up (up (up (upc (upc (up (up c 3 4 (c 3 4 - 1)) 3 3 (c 6 (c 3 4 - 1))) 5 (578 * c 3 4 - 578) 38 0 34) 5 (578 * c 3 4 - 544) 4 0 (34 * c 6 (c 3 4 - 1))) 0 11 0) 41 0 0) 41 52 (c 41 52 - 1)) 66 (630 * c 41 52 - 630) 58 0 37) 66 (630 * c 41 52 - 593) 60 0 592) 41 35 (c 66 (630 * c 41 52 - 1))) 41 36 0) 0 (by decide) hI_18 ⟨by omega, ub_fr hU (fun j => (up_c (nn rfl)).trans ((up_c (nn rfl)).trans ((upc_c (nn rfl)).trans ((upc_c (nn rfl)).trans ((up_c (nn rfl)).trans ((up_c (nn rfl)).trans ((up_c (nn rfl)).trans ((upc_c (nn rfl)).trans ((upc_c (nn rfl)).trans ((up_c (nn rfl)).trans (up_c (nn rfl)))))))))))) (fun j => (up_c (nn rfl)).trans ((up_c (nn rfl)).trans ((upc_c (nn rfl)).trans ((upc_c (nn rfl)).trans ((up_c (nn rfl)).trans ((up_c (nn rfl)).trans ((up_c (nn rfl)).trans ((upc_c (nn rfl)).trans ((upc_c (nn rfl)).trans ((up_c (nn rfl)).trans (up_c (nn rfl)))))))))))), ⟨by omega, by omega, by omega, by omega⟩, by omega, by omega, iw_fr2 hIw (by omega) (fun j => (up_c (nn rfl)).trans ((up_c (nn rfl)).trans ((upc_c (nn rfl)).trans ((upc_c (nn rfl)).trans ((up_c (nn rfl)).trans ((up_c (nn rfl)).trans ((up_c (nn rfl)).trans ((upc_c (nn rfl)).trans ((upc_c (nn rfl)).trans ((up_c (nn rfl)).trans (up_c (nn rfl)))))))))))) (fun j => (up_c (nn rfl)).trans ((up_c (nn rfl)).trans ((upc_c (nn rfl)).trans ((upc_c (nn rfl)).trans ((up_c (nn rfl)).trans ((up_c (nn rfl)).trans ((up_c (nn rfl)).trans ((upc_c (nn rfl)).trans ((upc_c (nn rfl)).trans ((up_c (nn rfl)).trans (up_c (nn rfl))))))))))))⟩
  · refine v_if_ne_f (t := 12) c_141_7 rfl (Decidable.not_not.mp h_2) (q_iconst c_141_10 (q_iret c_141_11 rfl (bk_inl (q_pop c_296_1757 rfl (q_aload_n c_296_1758 rfl (v_cv c_296_1759 km_9_263 rfl rfl (Nat.le_of_ble_eq_true rfl) ⟨⟨rfl, rfl⟩, Nat.le_of_ble_eq_true rfl, rfl⟩ (Nat.le_of_ble_eq_true rfl) (Nat.le_of_ble_eq_true rfl) (q_aload_n c_260_0 rfl ?_)))))))
    refine q_iconst c_260_1 (v_pi (z := 0) c_260_2 kf_8_3 rfl (Nat.le_of_ble_eq_true rfl) rfl rfl rfl (by decide) (q_aload_n c_260_5 rfl ?_))
    have h_36 := ir_41_52 hI
    refine v_gi (z := 52) (v := c 41 52) c_260_6 kf_8_185 rfl (Nat.le_of_ble_eq_true rfl) rfl rfl (up_n (by decide)) (v_if_ne_f (t := 14) c_260_9 rfl (by omega) (q_iconst c_260_12 (q_iret c_260_13 rfl (bk_inl (q_pop c_296_1762 rfl (q_goto (t := 1816) c_296_1763 rfl ?_))))))
    have hI_37 := iw_41_0 (v := 0) hI ⟨by decide, by decide⟩
    refine Wp_ls [(4, vi (i0 : Int)), (3, .ref 67), (2, .ref 41), (1, .ref 0), (0, .ref a_SC)] (lsub_cons rfl (lsub_cons rfl (lsub_cons rfl (lsub_cons rfl (lsub_cons rfl lsub_nil))))) ?_
    have h_38 := ir_1_3 hI
    have h_39 : (up c 41 0 0) 1 3 = c 1 3 := (up_c (nn rfl))
    have h_40 := ir_41_2 hI
    have h_41 : (up c 41 0 0) 41 2 = c 41 2 := (up_n (by decide))
    have h_42 : (up c 41 0 0) P 0 = n0 := ((up_c (np0 hP rfl)).trans (hn0))
    have h_43 : (up c 41 0 0) 41 20 = n0 := ((up_n (by decide)).trans (hm0))
    have h_44 : (up c 41 0 0) P 1 = n1 := ((up_c (np0 hP rfl)).trans (hn1))
    have h_45 : (up c 41 0 0) 41 21 = n1 := ((up_n (by decide)).trans (hm1))
    have h_46 : (up c 41 0 0) P 2 = n2 := ((up_c (np0 hP rfl)).trans (hn2))
    have h_47 : (up c 41 0 0) 41 22 = n2 := ((up_n (by decide)).trans (hm2))
    have h_48 : (up c 41 0 0) P 3 = n3 := ((up_c (np0 hP rfl)).trans (hn3))
    have h_49 : (up c 41 0 0) 41 23 = n3 := ((up_n (by decide)).trans (hm3))
    have h_50 : (up c 41 0 0) 3 4 = c 3 4 := (up_c (nn rfl))
    have h_51 : (up c 41 0 0) 41 52 = c 41 52 := (up_n (by decide))
    have h_52 := ir_3_3 hI
    have h_53 : (up c 41 0 0) 3 3 = c 3 3 := (up_c (nn rfl))
    have h_54 := ir_41_35 hI
    have h_55 : (up c 41 0 0) 41 35 = c 41 35 := (up_n (by decide))
    have h_56 : (up c 41 0 0) 3 4 = c 3 4 := (up_c (nn rfl))
    exact K P Q (up c 41 0 0) 0 (by decide) hI_37 ⟨by omega, ub_fr hU (fun j => up_c (nn rfl)) (fun j => up_c (nn rfl)), ⟨by omega, by omega, by omega, by omega⟩, by omega, by omega, iw_z (by omega)⟩

set_option maxRecDepth 100000 in
set_option maxHeartbeats 4000000 in
theorem o_41 {xs : Nat → Int32} {L i0 d nc ns P Q : Nat} {c : ME} {Z : AR → Prop} (hi : i0 + 8 ≤ L) (hL : L ≤ 100000) (hI : Iv 0 (-1) P Q c) (hR : Rq P c) (K : ∀ (P2 Q2 : Nat) (c2 : ME) (e : Nat), e ≤ 1 → Iv 0 (-1) P2 Q2 c2 → (Rq P2 c2) → Wp (a_scr L xs) (d + 90) 296 1816 [(4, vi (i0 : Int)), (3, .ref 67), (2, .ref 41), (1, .ref 0), (0, .ref a_SC)] [] (Wd P2 Q2 P2 P2 c2) (nc + e) (ns + 6 * e) Z) : Wp (a_scr L xs) (d + 90) 296 1766 [(4, vi (i0 : Int)), (3, .ref 67), (2, .ref 41), (1, .ref 0), (0, .ref a_SC)] [] (Wd P Q P P c) nc ns Z := by
  obtain ⟨x1, hx1⟩ : ∃ z, (xs (i0 + 1)).toInt = z := ⟨_, rfl⟩
  have x1r := c_rng (xs (i0 + 1))
  rw [hx1] at x1r
  obtain ⟨x2, hx2⟩ : ∃ z, (xs (i0 + 2)).toInt = z := ⟨_, rfl⟩
  have x2r := c_rng (xs (i0 + 2))
  rw [hx2] at x2r
  obtain ⟨x3, hx3⟩ : ∃ z, (xs (i0 + 3)).toInt = z := ⟨_, rfl⟩
  have x3r := c_rng (xs (i0 + 3))
  rw [hx3] at x3r
  obtain ⟨x4, hx4⟩ : ∃ z, (xs (i0 + 4)).toInt = z := ⟨_, rfl⟩
  have x4r := c_rng (xs (i0 + 4))
  rw [hx4] at x4r
  obtain ⟨x5, hx5⟩ : ∃ z, (xs (i0 + 5)).toInt = z := ⟨_, rfl⟩
  have x5r := c_rng (xs (i0 + 5))
  rw [hx5] at x5r
  obtain ⟨x6, hx6⟩ : ∃ z, (xs (i0 + 6)).toInt = z := ⟨_, rfl⟩
  have x6r := c_rng (xs (i0 + 6))
  rw [hx6] at x6r
  obtain ⟨x7, hx7⟩ : ∃ z, (xs (i0 + 7)).toInt = z := ⟨_, rfl⟩
  have x7r := c_rng (xs (i0 + 7))
  rw [hx7] at x7r
  have hP := iv_P hI
  have hQ := iv_Q hI
  have hT := rl_t hR
  have hU := rl_u hR
  obtain ⟨n0, hn0⟩ : ∃ z, c P 0 = z := ⟨_, rfl⟩
  have hm0 : c 41 20 = n0 := (rl_nums hR).1.symm.trans hn0
  have hr0 := ir_p0_0 hI hP
  rw [hn0] at hr0
  obtain ⟨n1, hn1⟩ : ∃ z, c P 1 = z := ⟨_, rfl⟩
  have hm1 : c 41 21 = n1 := (rl_nums hR).2.1.symm.trans hn1
  have hr1 := ir_p0_1 hI hP
  rw [hn1] at hr1
  obtain ⟨n2, hn2⟩ : ∃ z, c P 2 = z := ⟨_, rfl⟩
  have hm2 : c 41 22 = n2 := (rl_nums hR).2.2.1.symm.trans hn2
  have hr2 := ir_p0_2 hI hP
  rw [hn2] at hr2
  obtain ⟨n3, hn3⟩ : ∃ z, c P 3 = z := ⟨_, rfl⟩
  have hm3 : c 41 23 = n3 := (rl_nums hR).2.2.2.symm.trans hn3
  have hr3 := ir_p0_3 hI hP
  rw [hn3] at hr3
  have hNimg := rl_img hR
  have hNwk := rl_wk hR
  have h_1 := ir_3_4 hI
  have hIw := rl_iw hR
  refine q_aload_n c_296_1766 rfl (q_aload_n c_296_1767 rfl (q_iload c_296_1768 rfl (q_iconst c_296_1770 (v_iadd (v := (i0 : Int) + 1) c_296_1771 rfl (v_scr (j := i0 + 1) c_296_1772 (by omega) (by omega) hL hx1 (v_cv c_296_1773 km_9_264 rfl rfl (Nat.le_of_ble_eq_true rfl) ⟨⟨rfl, rfl⟩, Nat.le_of_ble_eq_true rfl, rfl⟩ (Nat.le_of_ble_eq_true rfl) (Nat.le_of_ble_eq_true rfl) (s_142 (a1 := x1) hI (show (-2147483648) ≤ x1 ∧ x1 ≤ 2147483647 from ⟨by omega, by omega⟩) (fun y_2 hy_2 => (bk_inl ?_)))))))))
  refine q_pop c_296_1776 rfl (q_aload_n c_296_1777 rfl (q_aload_n c_296_1778 rfl (q_iload c_296_1779 rfl (q_iconst c_296_1781 (v_iadd (v := (i0 : Int) + 1) c_296_1782 rfl (v_scr (j := i0 + 1) c_296_1783 (by omega) (by omega) hL hx1 (v_cv c_296_1784 km_9_267 rfl rfl (Nat.le_of_ble_eq_true rfl) ⟨⟨rfl, rfl⟩, Nat.le_of_ble_eq_true rfl, rfl⟩ (Nat.le_of_ble_eq_true rfl) (Nat.le_of_ble_eq_true rfl) (s_261 (a1 := x1) hI (show (-2147483648) ≤ x1 ∧ x1 ≤ 2147483647 from ⟨by omega, by omega⟩) (fun c_3 y_6 hI_4 hF_5 hy_6 => ?_)))))))))
  refine bk_inl (q_pop c_296_1787 rfl (q_goto (t := 1816) c_296_1788 rfl (Wp_ls [(4, vi (i0 : Int)), (3, .ref 67), (2, .ref 41), (1, .ref 0), (0, .ref a_SC)] (lsub_cons rfl (lsub_cons rfl (lsub_cons rfl (lsub_cons rfl (lsub_cons rfl lsub_nil))))) ?_)))
  have h_7 := ir_1_3 hI
  have kn_8 : Hid (c_3 1 3 = c 1 3) := hF_5 1 3 (fun h => absurd h.1 (nn rfl))
  have h_9 : c_3 1 3 = c 1 3 := (hid kn_8)
  have h_10 := ir_41_2 hI
  have kn_11 : Hid (c_3 41 2 = c 41 2) := hF_5 41 2 (fun h => absurd h.2 (ni rfl))
  have h_12 : c_3 41 2 = c 41 2 := (hid kn_11)
  have kn_13 : Hid (c_3 P 0 = n0) := (hF_5 P 0 (fun h => absurd h.1 (np0 hP rfl))).trans (hn0)
  have h_14 : c_3 P 0 = n0 := (hid kn_13)
  have kn_15 : Hid (c_3 41 20 = n0) := (hF_5 41 20 (fun h => absurd h.2 (ni rfl))).trans (hm0)
  have h_16 : c_3 41 20 = n0 := (hid kn_15)
  have kn_17 : Hid (c_3 P 1 = n1) := (hF_5 P 1 (fun h => absurd h.1 (np0 hP rfl))).trans (hn1)
  have h_18 : c_3 P 1 = n1 := (hid kn_17)
  have kn_19 : Hid (c_3 41 21 = n1) := (hF_5 41 21 (fun h => absurd h.2 (ni rfl))).trans (hm1)
  have h_20 : c_3 41 21 = n1 := (hid kn_19)
  have kn_21 : Hid (c_3 P 2 = n2) := (hF_5 P 2 (fun h => absurd h.1 (np0 hP rfl))).trans (hn2)
  have h_22 : c_3 P 2 = n2 := (hid kn_21)
  have kn_23 : Hid (c_3 41 22 = n2) := (hF_5 41 22 (fun h => absurd h.2 (ni rfl))).trans (hm2)
  have h_24 : c_3 41 22 = n2 := (hid kn_23)
  have kn_25 : Hid (c_3 P 3 = n3) := (hF_5 P 3 (fun h => absurd h.1 (np0 hP rfl))).trans (hn3)
  have h_26 : c_3 P 3 = n3 := (hid kn_25)
  have kn_27 : Hid (c_3 41 23 = n3) := (hF_5 41 23 (fun h => absurd h.2 (ni rfl))).trans (hm3)
  have h_28 : c_3 41 23 = n3 := (hid kn_27)
  have kn_29 : Hid (c_3 3 4 = c 3 4) := hF_5 3 4 (fun h => absurd h.1 (nn rfl))
  have h_30 : c_3 3 4 = c 3 4 := (hid kn_29)
  have h_31 := ir_41_52 hI
  have kn_32 : Hid (c_3 41 52 = c 41 52) := hF_5 41 52 (fun h => absurd h.2 (ni rfl))
  have h_33 : c_3 41 52 = c 41 52 := (hid kn_32)
  have h_34 := ir_3_3 hI
  have kn_35 : Hid (c_3 3 3 = c 3 3) := hF_5 3 3 (fun h => absurd h.1 (nn rfl))
  have h_36 : c_3 3 3 = c 3 3 := (hid kn_35)
  have h_37 := ir_41_35 hI
  have kn_38 : Hid (c_3 41 35 = c 41 35) := hF_5 41 35 (fun h => absurd h.2 (ni rfl))
  have h_39 : c_3 41 35 = c 41 35 := (hid kn_38)
  have h_40 : c_3 3 4 = c 3 4 := (hid kn_29)
  exact K P Q c_3 0 (by decide) hI_4 ⟨by omega, ub_fr hU (fun j => hF_5 2 j (fun h => absurd h.1 (nn rfl))) (fun j => hF_5 43 j (fun h => absurd h.1 (nn rfl))), ⟨by omega, by omega, by omega, by omega⟩, by omega, by omega, iw_fr2 hIw (by omega) (fun j => hF_5 6 j (fun h => absurd h.1 (nn rfl))) (fun j => hF_5 66 j (fun h => absurd h.1 (nn rfl)))⟩

set_option maxRecDepth 100000 in
set_option maxHeartbeats 4000000 in
theorem o_42 {xs : Nat → Int32} {L i0 d nc ns P Q : Nat} {c : ME} {Z : AR → Prop} (hi : i0 + 8 ≤ L) (hL : L ≤ 100000) (hI : Iv 0 (-1) P Q c) (hR : Rq P c) (K : ∀ (P2 Q2 : Nat) (c2 : ME) (e : Nat), e ≤ 1 → Iv 0 (-1) P2 Q2 c2 → (Rq P2 c2) → Wp (a_scr L xs) (d + 90) 296 1816 [(4, vi (i0 : Int)), (3, .ref 67), (2, .ref 41), (1, .ref 0), (0, .ref a_SC)] [] (Wd P2 Q2 P2 P2 c2) (nc + e) (ns + 6 * e) Z) : Wp (a_scr L xs) (d + 90) 296 1791 [(4, vi (i0 : Int)), (3, .ref 67), (2, .ref 41), (1, .ref 0), (0, .ref a_SC)] [] (Wd P Q P P c) nc ns Z := by
  obtain ⟨x1, hx1⟩ : ∃ z, (xs (i0 + 1)).toInt = z := ⟨_, rfl⟩
  have x1r := c_rng (xs (i0 + 1))
  rw [hx1] at x1r
  obtain ⟨x2, hx2⟩ : ∃ z, (xs (i0 + 2)).toInt = z := ⟨_, rfl⟩
  have x2r := c_rng (xs (i0 + 2))
  rw [hx2] at x2r
  obtain ⟨x3, hx3⟩ : ∃ z, (xs (i0 + 3)).toInt = z := ⟨_, rfl⟩
  have x3r := c_rng (xs (i0 + 3))
  rw [hx3] at x3r
  obtain ⟨x4, hx4⟩ : ∃ z, (xs (i0 + 4)).toInt = z := ⟨_, rfl⟩
  have x4r := c_rng (xs (i0 + 4))
  rw [hx4] at x4r
  obtain ⟨x5, hx5⟩ : ∃ z, (xs (i0 + 5)).toInt = z := ⟨_, rfl⟩
  have x5r := c_rng (xs (i0 + 5))
  rw [hx5] at x5r
  obtain ⟨x6, hx6⟩ : ∃ z, (xs (i0 + 6)).toInt = z := ⟨_, rfl⟩
  have x6r := c_rng (xs (i0 + 6))
  rw [hx6] at x6r
  obtain ⟨x7, hx7⟩ : ∃ z, (xs (i0 + 7)).toInt = z := ⟨_, rfl⟩
  have x7r := c_rng (xs (i0 + 7))
  rw [hx7] at x7r
  have hP := iv_P hI
  have hQ := iv_Q hI
  have hT := rl_t hR
  have hU := rl_u hR
  obtain ⟨n0, hn0⟩ : ∃ z, c P 0 = z := ⟨_, rfl⟩
  have hm0 : c 41 20 = n0 := (rl_nums hR).1.symm.trans hn0
  have hr0 := ir_p0_0 hI hP
  rw [hn0] at hr0
  obtain ⟨n1, hn1⟩ : ∃ z, c P 1 = z := ⟨_, rfl⟩
  have hm1 : c 41 21 = n1 := (rl_nums hR).2.1.symm.trans hn1
  have hr1 := ir_p0_1 hI hP
  rw [hn1] at hr1
  obtain ⟨n2, hn2⟩ : ∃ z, c P 2 = z := ⟨_, rfl⟩
  have hm2 : c 41 22 = n2 := (rl_nums hR).2.2.1.symm.trans hn2
  have hr2 := ir_p0_2 hI hP
  rw [hn2] at hr2
  obtain ⟨n3, hn3⟩ : ∃ z, c P 3 = z := ⟨_, rfl⟩
  have hm3 : c 41 23 = n3 := (rl_nums hR).2.2.2.symm.trans hn3
  have hr3 := ir_p0_3 hI hP
  rw [hn3] at hr3
  have hNimg := rl_img hR
  have hNwk := rl_wk hR
  have h_1 := ir_3_4 hI
  have hIw := rl_iw hR
  refine q_aload_n c_296_1791 rfl (q_aload_n c_296_1792 rfl (q_iload c_296_1793 rfl (q_iconst c_296_1795 (v_iadd (v := (i0 : Int) + 1) c_296_1796 rfl (v_scr (j := i0 + 1) c_296_1797 (by omega) (by omega) hL hx1 (v_cv c_296_1798 km_9_268 rfl rfl (Nat.le_of_ble_eq_true rfl) ⟨⟨rfl, rfl⟩, Nat.le_of_ble_eq_true rfl, rfl⟩ (Nat.le_of_ble_eq_true rfl) (Nat.le_of_ble_eq_true rfl) (q_iload_n c_143_0 rfl ?_)))))))
  by_cases h_2 : x1 = 0
  · skip
    refine v_tsw_i (t := 28) 0 c_143_1 (by omega) (by decide) rfl (by decide) (q_aload_n c_143_28 rfl (v_gr (t := 3) c_143_29 kf_7_19 rfl (Nat.le_of_ble_eq_true rfl) rfl (v_gi (z := 4) (v := c 3 4) c_143_32 kf_7_318 rfl (Nat.le_of_ble_eq_true rfl) rfl rfl rfl (q_iret c_143_35 rfl (bk_inl (q_aload_n c_296_1801 rfl (q_aload_n c_296_1802 rfl ?_)))))))
    refine q_iload c_296_1803 rfl (q_iconst c_296_1805 (v_iadd (v := (i0 : Int) + 1) c_296_1806 rfl (v_scr (j := i0 + 1) c_296_1807 (by omega) (by omega) hL hx1 (v_cv c_296_1808 km_9_271 rfl rfl (Nat.le_of_ble_eq_true rfl) ⟨⟨rfl, rfl⟩, Nat.le_of_ble_eq_true rfl, rfl⟩ (Nat.le_of_ble_eq_true rfl) (Nat.le_of_ble_eq_true rfl) (q_aload_n c_262_0 rfl (q_iconst c_262_1 (v_pi (z := 0) c_262_2 kf_8_3 rfl (Nat.le_of_ble_eq_true rfl) rfl rfl rfl (by decide) ?_)))))))
    refine q_iload_n c_262_5 rfl (v_if_ne_f (t := 16) c_262_6 rfl (by first | exact q_d56973fb2 h_2 | omega) (q_aload_n c_262_9 rfl ?_))
    have h_3 := ir_41_52 hI
    refine v_gi (z := 52) (v := c 41 52) c_262_10 kf_8_185 rfl (Nat.le_of_ble_eq_true rfl) rfl rfl (up_n (by decide)) (q_goto (t := 41) c_262_13 rfl (q_iret c_262_41 rfl (bk_inl (v_ic_eq_t (t := 1816) c_296_1811 rfl (by omega) ?_))))
    have hI_4 := iw_41_0 (v := 0) hI ⟨by decide, by decide⟩
    refine Wp_ls [(4, vi (i0 : Int)), (3, .ref 67), (2, .ref 41), (1, .ref 0), (0, .ref a_SC)] (lsub_cons rfl (lsub_cons rfl (lsub_cons rfl (lsub_cons rfl (lsub_cons rfl lsub_nil))))) ?_
    have h_5 := ir_1_3 hI
    have h_6 : (up c 41 0 0) 1 3 = c 1 3 := (up_c (nn rfl))
    have h_7 := ir_41_2 hI
    have h_8 : (up c 41 0 0) 41 2 = c 41 2 := (up_n (by decide))
    have h_9 : (up c 41 0 0) P 0 = n0 := ((up_c (np0 hP rfl)).trans (hn0))
    have h_10 : (up c 41 0 0) 41 20 = n0 := ((up_n (by decide)).trans (hm0))
    have h_11 : (up c 41 0 0) P 1 = n1 := ((up_c (np0 hP rfl)).trans (hn1))
    have h_12 : (up c 41 0 0) 41 21 = n1 := ((up_n (by decide)).trans (hm1))
    have h_13 : (up c 41 0 0) P 2 = n2 := ((up_c (np0 hP rfl)).trans (hn2))
    have h_14 : (up c 41 0 0) 41 22 = n2 := ((up_n (by decide)).trans (hm2))
    have h_15 : (up c 41 0 0) P 3 = n3 := ((up_c (np0 hP rfl)).trans (hn3))
    have h_16 : (up c 41 0 0) 41 23 = n3 := ((up_n (by decide)).trans (hm3))
    have h_17 : (up c 41 0 0) 3 4 = c 3 4 := (up_c (nn rfl))
    have h_18 : (up c 41 0 0) 41 52 = c 41 52 := (up_n (by decide))
    have h_19 := ir_3_3 hI
    have h_20 : (up c 41 0 0) 3 3 = c 3 3 := (up_c (nn rfl))
    have h_21 := ir_41_35 hI
    have h_22 : (up c 41 0 0) 41 35 = c 41 35 := (up_n (by decide))
    have h_23 : (up c 41 0 0) 3 4 = c 3 4 := (up_c (nn rfl))
    exact K P Q (up c 41 0 0) 0 (by decide) hI_4 ⟨by omega, ub_fr hU (fun j => up_c (nn rfl)) (fun j => up_c (nn rfl)), ⟨by omega, by omega, by omega, by omega⟩, by omega, by omega, iw_fr2 hIw (by omega) (fun j => up_c (nn rfl)) (fun j => up_c (nn rfl))⟩
  by_cases h_24 : x1 = 1
  · skip
    refine v_tsw_i (t := 36) 1 rfl (by omega) (by decide) rfl (by decide) (q_aload_n c_143_36 rfl (v_gr (t := 1) c_143_37 kf_7_10 rfl (Nat.le_of_ble_eq_true rfl) rfl ?_))
    have h_25 := ir_1_3 hI
    refine v_gi (z := 3) (v := c 1 3) c_143_40 kf_7_77 rfl (Nat.le_of_ble_eq_true rfl) rfl rfl rfl (q_iret c_143_43 rfl (bk_inl (q_aload_n c_296_1801 rfl (q_aload_n c_296_1802 rfl (q_iload c_296_1803 rfl (q_iconst c_296_1805 (v_iadd (v := (i0 : Int) + 1) c_296_1806 rfl ?_)))))))
    refine v_scr (j := i0 + 1) c_296_1807 (by omega) (by omega) hL hx1 (v_cv c_296_1808 km_9_271 rfl rfl (Nat.le_of_ble_eq_true rfl) ⟨⟨rfl, rfl⟩, Nat.le_of_ble_eq_true rfl, rfl⟩ (Nat.le_of_ble_eq_true rfl) (Nat.le_of_ble_eq_true rfl) (q_aload_n c_262_0 rfl (q_iconst c_262_1 (v_pi (z := 0) c_262_2 kf_8_3 rfl (Nat.le_of_ble_eq_true rfl) rfl rfl rfl (by decide) (q_iload_n c_262_5 rfl (v_if_ne_t (t := 16) c_262_6 rfl ⟨by first | exact q_72815ef9e h_24 | (clear hT hNimg hNwk h_1 h_25 h_2; omega) | omega, ⟨by first | exact q_bdd517da6 h_24 | (clear hT hNimg hNwk h_1 h_25 h_2; omega) | omega, by first | exact q_71ca93a6c h_24 | (clear hT hNimg hNwk h_1 h_25 h_2; omega) | omega⟩, by decide, by decide⟩ (q_iload_n c_262_16 rfl ?_)))))))
    refine q_iconst c_262_17 (v_ic_ne_f (t := 28) c_262_18 rfl (by first | exact q_e2571c9b4 h_24 | (clear hT hNimg hNwk h_1 h_25 h_2; omega) | omega) (q_aload_n c_262_21 rfl ?_))
    have h_26 := ir_41_2 hI
    refine v_gi (z := 2) (v := c 41 2) c_262_22 kf_8_99 rfl (Nat.le_of_ble_eq_true rfl) rfl rfl (up_n (by decide)) (q_goto (t := 41) c_262_25 rfl (q_iret c_262_41 rfl (bk_inl (v_ic_eq_t (t := 1816) c_296_1811 rfl (by first | (clear hNimg hNwk h_1 h_24 h_25 h_26 h_2; omega) | omega) ?_))))
    have hI_27 := iw_41_0 (v := 0) hI ⟨by decide, by decide⟩
    refine Wp_ls [(4, vi (i0 : Int)), (3, .ref 67), (2, .ref 41), (1, .ref 0), (0, .ref a_SC)] (lsub_cons rfl (lsub_cons rfl (lsub_cons rfl (lsub_cons rfl (lsub_cons rfl lsub_nil))))) ?_
    have h_28 : (up c 41 0 0) 1 3 = c 1 3 := (up_c (nn rfl))
    have h_29 : (up c 41 0 0) 41 2 = c 41 2 := (up_n (by decide))
    have h_30 : (up c 41 0 0) P 0 = n0 := ((up_c (np0 hP rfl)).trans (hn0))
    have h_31 : (up c 41 0 0) 41 20 = n0 := ((up_n (by decide)).trans (hm0))
    have h_32 : (up c 41 0 0) P 1 = n1 := ((up_c (np0 hP rfl)).trans (hn1))
    have h_33 : (up c 41 0 0) 41 21 = n1 := ((up_n (by decide)).trans (hm1))
    have h_34 : (up c 41 0 0) P 2 = n2 := ((up_c (np0 hP rfl)).trans (hn2))
    have h_35 : (up c 41 0 0) 41 22 = n2 := ((up_n (by decide)).trans (hm2))
    have h_36 : (up c 41 0 0) P 3 = n3 := ((up_c (np0 hP rfl)).trans (hn3))
    have h_37 : (up c 41 0 0) 41 23 = n3 := ((up_n (by decide)).trans (hm3))
    have h_38 : (up c 41 0 0) 3 4 = c 3 4 := (up_c (nn rfl))
    have h_39 := ir_41_52 hI
    have h_40 : (up c 41 0 0) 41 52 = c 41 52 := (up_n (by decide))
    have h_41 := ir_3_3 hI
    have h_42 : (up c 41 0 0) 3 3 = c 3 3 := (up_c (nn rfl))
    have h_43 := ir_41_35 hI
    have h_44 : (up c 41 0 0) 41 35 = c 41 35 := (up_n (by decide))
    have h_45 : (up c 41 0 0) 3 4 = c 3 4 := (up_c (nn rfl))
    exact K P Q (up c 41 0 0) 0 (by decide) hI_27 ⟨by omega, ub_fr hU (fun j => up_c (nn rfl)) (fun j => up_c (nn rfl)), ⟨by omega, by omega, by omega, by omega⟩, by omega, by omega, iw_fr2 hIw (by omega) (fun j => up_c (nn rfl)) (fun j => up_c (nn rfl))⟩
  by_cases h_46 : x1 = 2
  · skip
    refine v_tsw_i (t := 44) 2 rfl (by omega) (by decide) rfl (by decide) (q_aload_n c_143_44 rfl (v_gr (t := 3) c_143_45 kf_7_19 rfl (Nat.le_of_ble_eq_true rfl) rfl ?_))
    have h_47 := ir_3_3 hI
    refine v_gi (z := 3) (v := c 3 3) c_143_48 kf_7_312 rfl (Nat.le_of_ble_eq_true rfl) rfl rfl rfl (q_iret c_143_51 rfl (bk_inl (q_aload_n c_296_1801 rfl (q_aload_n c_296_1802 rfl (q_iload c_296_1803 rfl (q_iconst c_296_1805 (v_iadd (v := (i0 : Int) + 1) c_296_1806 rfl ?_)))))))
    refine v_scr (j := i0 + 1) c_296_1807 (by omega) (by omega) hL hx1 (v_cv c_296_1808 km_9_271 rfl rfl (Nat.le_of_ble_eq_true rfl) ⟨⟨rfl, rfl⟩, Nat.le_of_ble_eq_true rfl, rfl⟩ (Nat.le_of_ble_eq_true rfl) (Nat.le_of_ble_eq_true rfl) (q_aload_n c_262_0 rfl (q_iconst c_262_1 (v_pi (z := 0) c_262_2 kf_8_3 rfl (Nat.le_of_ble_eq_true rfl) rfl rfl rfl (by decide) (q_iload_n c_262_5 rfl (v_if_ne_t (t := 16) c_262_6 rfl ⟨by first | exact q_4b21d0ff9 h_46 | (clear hT hNimg hNwk h_1 h_47 h_2 h_24; omega) | omega, ⟨by first | exact q_2cc7dee0d h_46 | (clear hT hNimg hNwk h_1 h_47 h_2 h_24; omega) | omega, by first | exact q_7592719db h_46 | (clear hT hNimg hNwk h_1 h_47 h_2 h_24; omega) | omega⟩, by decide, by decide⟩ (q_iload_n c_262_16 rfl ?_)))))))
    refine q_iconst c_262_17 (v_ic_ne_t (t := 28) c_262_18 rfl ⟨by first | exact q_70ecf1be4 h_46 | (clear hT hNimg hNwk h_1 h_47 h_2 h_24; omega) | omega, ⟨by first | exact q_2cc7dee0d h_46 | (clear hT hNimg hNwk h_1 h_47 h_2 h_24; omega) | omega, by first | exact q_7592719db h_46 | (clear hT hNimg hNwk h_1 h_47 h_2 h_24; omega) | omega⟩, by decide, by decide⟩ (q_iload_n c_262_28 rfl (q_iconst c_262_29 (v_ic_ne_f (t := 40) c_262_30 rfl (by first | exact q_074216cb3 h_46 | (clear hT hNimg hNwk h_1 h_47 h_2 h_24; omega) | omega) (q_aload_n c_262_33 rfl ?_)))))
    have h_48 := ir_41_35 hI
    refine v_gi (z := 35) (v := c 41 35) c_262_34 kf_8_182 rfl (Nat.le_of_ble_eq_true rfl) rfl rfl (up_n (by decide)) (q_goto (t := 41) c_262_37 rfl (q_iret c_262_41 rfl (bk_inl (v_ic_eq_t (t := 1816) c_296_1811 rfl (by first | (clear hT hNimg h_1 h_46 h_47 h_48 h_2 h_24; omega) | omega) ?_))))
    have hI_49 := iw_41_0 (v := 0) hI ⟨by decide, by decide⟩
    refine Wp_ls [(4, vi (i0 : Int)), (3, .ref 67), (2, .ref 41), (1, .ref 0), (0, .ref a_SC)] (lsub_cons rfl (lsub_cons rfl (lsub_cons rfl (lsub_cons rfl (lsub_cons rfl lsub_nil))))) ?_
    have h_50 := ir_1_3 hI
    have h_51 : (up c 41 0 0) 1 3 = c 1 3 := (up_c (nn rfl))
    have h_52 := ir_41_2 hI
    have h_53 : (up c 41 0 0) 41 2 = c 41 2 := (up_n (by decide))
    have h_54 : (up c 41 0 0) P 0 = n0 := ((up_c (np0 hP rfl)).trans (hn0))
    have h_55 : (up c 41 0 0) 41 20 = n0 := ((up_n (by decide)).trans (hm0))
    have h_56 : (up c 41 0 0) P 1 = n1 := ((up_c (np0 hP rfl)).trans (hn1))
    have h_57 : (up c 41 0 0) 41 21 = n1 := ((up_n (by decide)).trans (hm1))
    have h_58 : (up c 41 0 0) P 2 = n2 := ((up_c (np0 hP rfl)).trans (hn2))
    have h_59 : (up c 41 0 0) 41 22 = n2 := ((up_n (by decide)).trans (hm2))
    have h_60 : (up c 41 0 0) P 3 = n3 := ((up_c (np0 hP rfl)).trans (hn3))
    have h_61 : (up c 41 0 0) 41 23 = n3 := ((up_n (by decide)).trans (hm3))
    have h_62 : (up c 41 0 0) 3 4 = c 3 4 := (up_c (nn rfl))
    have h_63 := ir_41_52 hI
    have h_64 : (up c 41 0 0) 41 52 = c 41 52 := (up_n (by decide))
    have h_65 : (up c 41 0 0) 3 3 = c 3 3 := (up_c (nn rfl))
    have h_66 : (up c 41 0 0) 41 35 = c 41 35 := (up_n (by decide))
    have h_67 : (up c 41 0 0) 3 4 = c 3 4 := (up_c (nn rfl))
    exact K P Q (up c 41 0 0) 0 (by decide) hI_49 ⟨by omega, ub_fr hU (fun j => up_c (nn rfl)) (fun j => up_c (nn rfl)), ⟨by omega, by omega, by omega, by omega⟩, by omega, by omega, iw_fr2 hIw (by omega) (fun j => up_c (nn rfl)) (fun j => up_c (nn rfl))⟩
  refine v_tsw_o (t := 52) rfl (by omega) (by decide) (q_iconst c_143_52 (q_iret c_143_53 rfl (bk_inl (q_aload_n c_296_1801 rfl (q_aload_n c_296_1802 rfl (q_iload c_296_1803 rfl (q_iconst c_296_1805 ?_)))))))
  refine v_iadd (v := (i0 : Int) + 1) c_296_1806 rfl (v_scr (j := i0 + 1) c_296_1807 (by omega) (by omega) hL hx1 (v_cv c_296_1808 km_9_271 rfl rfl (Nat.le_of_ble_eq_true rfl) ⟨⟨rfl, rfl⟩, Nat.le_of_ble_eq_true rfl, rfl⟩ (Nat.le_of_ble_eq_true rfl) (Nat.le_of_ble_eq_true rfl) (q_aload_n c_262_0 rfl (q_iconst c_262_1 (v_pi (z := 0) c_262_2 kf_8_3 rfl (Nat.le_of_ble_eq_true rfl) rfl rfl rfl (by decide) (q_iload_n c_262_5 rfl (v_if_ne_t (t := 16) c_262_6 rfl ⟨by first | exact q_93a4df8f1 h_2 | (clear hT hNimg hNwk h_1 h_24 h_46; omega) | omega, ⟨by first | (clear hT hNimg hNwk h_1 h_2 h_24 h_46; omega) | omega, by first | (clear hT hNimg hNwk h_1 h_2 h_24 h_46; omega) | omega⟩, by decide, by decide⟩ ?_)))))))
  refine q_iload_n c_262_16 rfl (q_iconst c_262_17 (v_ic_ne_t (t := 28) c_262_18 rfl ⟨by first | exact q_ea625c1e5 h_24 | (clear hT hNimg hNwk h_1 h_2 h_46; omega) | omega, ⟨by first | (clear hT hNimg hNwk h_1 h_2 h_24 h_46; omega) | omega, by first | (clear hT hNimg hNwk h_1 h_2 h_24 h_46; omega) | omega⟩, by decide, by decide⟩ (q_iload_n c_262_28 rfl (q_iconst c_262_29 (v_ic_ne_t (t := 40) c_262_30 rfl ⟨by first | exact q_e2e39526d h_46 | (clear hT hNimg hNwk h_1 h_2 h_24; omega) | omega, ⟨by first | (clear hT hNimg hNwk h_1 h_2 h_24 h_46; omega) | omega, by first | (clear hT hNimg hNwk h_1 h_2 h_24 h_46; omega) | omega⟩, by decide, by decide⟩ (q_iconst c_262_40 (q_iret c_262_41 rfl ?_)))))))
  refine bk_inl (v_ic_eq_t (t := 1816) c_296_1811 rfl (by decide) ?_)
  have hI_68 := iw_41_0 (v := 0) hI ⟨by decide, by decide⟩
  refine Wp_ls [(4, vi (i0 : Int)), (3, .ref 67), (2, .ref 41), (1, .ref 0), (0, .ref a_SC)] (lsub_cons rfl (lsub_cons rfl (lsub_cons rfl (lsub_cons rfl (lsub_cons rfl lsub_nil))))) ?_
  have h_69 := ir_1_3 hI
  have h_70 : (up c 41 0 0) 1 3 = c 1 3 := (up_c (nn rfl))
  have h_71 := ir_41_2 hI
  have h_72 : (up c 41 0 0) 41 2 = c 41 2 := (up_n (by decide))
  have h_73 : (up c 41 0 0) P 0 = n0 := ((up_c (np0 hP rfl)).trans (hn0))
  have h_74 : (up c 41 0 0) 41 20 = n0 := ((up_n (by decide)).trans (hm0))
  have h_75 : (up c 41 0 0) P 1 = n1 := ((up_c (np0 hP rfl)).trans (hn1))
  have h_76 : (up c 41 0 0) 41 21 = n1 := ((up_n (by decide)).trans (hm1))
  have h_77 : (up c 41 0 0) P 2 = n2 := ((up_c (np0 hP rfl)).trans (hn2))
  have h_78 : (up c 41 0 0) 41 22 = n2 := ((up_n (by decide)).trans (hm2))
  have h_79 : (up c 41 0 0) P 3 = n3 := ((up_c (np0 hP rfl)).trans (hn3))
  have h_80 : (up c 41 0 0) 41 23 = n3 := ((up_n (by decide)).trans (hm3))
  have h_81 : (up c 41 0 0) 3 4 = c 3 4 := (up_c (nn rfl))
  have h_82 := ir_41_52 hI
  have h_83 : (up c 41 0 0) 41 52 = c 41 52 := (up_n (by decide))
  have h_84 := ir_3_3 hI
  have h_85 : (up c 41 0 0) 3 3 = c 3 3 := (up_c (nn rfl))
  have h_86 := ir_41_35 hI
  have h_87 : (up c 41 0 0) 41 35 = c 41 35 := (up_n (by decide))
  have h_88 : (up c 41 0 0) 3 4 = c 3 4 := (up_c (nn rfl))
  exact K P Q (up c 41 0 0) 0 (by decide) hI_68 ⟨by omega, ub_fr hU (fun j => up_c (nn rfl)) (fun j => up_c (nn rfl)), ⟨by omega, by omega, by omega, by omega⟩, by omega, by omega, iw_fr2 hIw (by omega) (fun j => up_c (nn rfl)) (fun j => up_c (nn rfl))⟩

