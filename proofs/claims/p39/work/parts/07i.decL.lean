theorem dL_law_1464 : decode cL_law 1464 = .ok (.iload_n 3, 1) := o29 hcL_law rfl
theorem dL_law_1465 : decode cL_law 1465 = .ok (.iconst 1, 1) := o4 hcL_law rfl
theorem dL_law_1466 : decode cL_law 1466 = .ok (.iadd, 1) := o96 hcL_law rfl
theorem dL_law_1467 : decode cL_law 1467 = .ok (.iaload, 1) := o46 hcL_law rfl
theorem dL_law_1468 : decode cL_law 1468 = .ok (.aload_n 0, 1) := o42 hcL_law rfl
theorem dL_law_1469 : decode cL_law 1469 = .ok (.iload_n 3, 1) := o29 hcL_law rfl
theorem dL_law_1470 : decode cL_law 1470 = .ok (.iconst 2, 1) := o5 hcL_law rfl
theorem dL_law_1471 : decode cL_law 1471 = .ok (.iadd, 1) := o96 hcL_law rfl
theorem dL_law_1472 : decode cL_law 1472 = .ok (.iaload, 1) := o46 hcL_law rfl
theorem dL_law_1473 : decode cL_law 1473 = .ok (.aload_n 0, 1) := o42 hcL_law rfl
theorem dL_law_1474 : decode cL_law 1474 = .ok (.iload_n 3, 1) := o29 hcL_law rfl
theorem dL_law_1475 : decode cL_law 1475 = .ok (.iconst 3, 1) := o6 hcL_law rfl
theorem dL_law_1476 : decode cL_law 1476 = .ok (.iadd, 1) := o96 hcL_law rfl
theorem dL_law_1477 : decode cL_law 1477 = .ok (.iaload, 1) := o46 hcL_law rfl
theorem dL_law_1478 : decode cL_law 1478 = .ok (.aload_n 0, 1) := o42 hcL_law rfl
theorem dL_law_1479 : decode cL_law 1479 = .ok (.iload_n 3, 1) := o29 hcL_law rfl
theorem dL_law_1480 : decode cL_law 1480 = .ok (.iconst 4, 1) := o7 hcL_law rfl
theorem dL_law_1481 : decode cL_law 1481 = .ok (.iadd, 1) := o96 hcL_law rfl
theorem dL_law_1482 : decode cL_law 1482 = .ok (.iaload, 1) := o46 hcL_law rfl
theorem dL_law_1483 : decode cL_law 1483 = .ok (.aload_n 0, 1) := o42 hcL_law rfl
theorem dL_law_1484 : decode cL_law 1484 = .ok (.iload_n 3, 1) := o29 hcL_law rfl
theorem dL_law_1485 : decode cL_law 1485 = .ok (.iconst 5, 1) := o8 hcL_law rfl
theorem dL_law_1486 : decode cL_law 1486 = .ok (.iadd, 1) := o96 hcL_law rfl
theorem dL_law_1487 : decode cL_law 1487 = .ok (.iaload, 1) := o46 hcL_law rfl
theorem dL_law_1488 : decode cL_law 1488 = .ok (.invokevirtual 177, 3) := o182 hcL_law rfl
theorem dL_law_1491 : decode cL_law 1491 = .ok (.if_icmp .eq 5, 3) := o159 hcL_law (a := 5) rfl rfl
theorem dL_law_1494 : decode cL_law 1494 = .ok (.iconst 0, 1) := o3 hcL_law rfl
theorem dL_law_1495 : decode cL_law 1495 = .ok (.ireturn, 1) := o172 hcL_law rfl
theorem dL_law_1496 : decode cL_law 1496 = .ok (.iinc 3 6, 3) := o132 hcL_law (b := 6) rfl rfl
theorem dL_law_1499 : decode cL_law 1499 = .ok (.goto (-1481), 3) := o167 hcL_law (a := 64055) rfl rfl
theorem dL_law_1502 : decode cL_law 1502 = .ok (.iconst 1, 1) := o4 hcL_law rfl
theorem dL_law_1503 : decode cL_law 1503 = .ok (.ireturn, 1) := o172 hcL_law rfl
