section LAW
variable {sh : List Shp} {me : Mem} {S : St} {nm : String} {sx : Scr} {Lx k : Nat}
set_option maxHeartbeats 4000000 in
set_option maxRecDepth 100000 in
theorem law_7 (hI : InvL sh me S k) (hsx : sx.1 = Lx + 1) (hL : Lx ≤ 384) (h6 : 6 * k + 6 ≤ Lx) (kc : ∀ m S', InvL sh m S' (k + 1) → Wa (mL nm) sx 20 600000 7302249 0 QL 1174 [.retAddr 0, .ref 0, .ref 136, .int (nI (6 * k))] [] sh m 600000 7302249) : Wa (mL nm) sx 20 600000 7302249 0 QL 451 [.retAddr 0, .ref 0, .ref 136, .int (nI (6 * k))] [] sh me 600000 7302249 := by
  obtain ⟨hFC, hFM, hRC, hRM, hok, hb0⟩ := id hI
  have z0 := hFC.1
  have z1 := hFM.1
  refine ld_a1 (np := 452) dL_law_451 rfl ?_
  refine ldS_a0 (np := 453) dL_law_452 rfl ?_
  refine ld_i3 (np := 454) dL_law_453 rfl ?_
  refine wl_iconst (np := 455) (v := 1) dL_law_454 rfl (rfl) ?_
  refine wl_iadd (np := 456) dL_law_455 rfl ?_
  refine wl_sloadN (np := 457) dL_law_456 rfl hsx hb0 (by first | (simp only [nIm, nIa, ← nI_succ]; exact rfl) | exact nI_z | exact nI_o | exact rfl) (by omega) (by omega) ?_
  refine ciV_1 (np := 460) dL_law_457 rfl lk_L_46 (by assumption) (Nat.le_of_ble_eq_true rfl) (by omega) (Nat.le_refl _) (Nat.le_refl _) (c_dc_coats _ hFC hRC hok.2.2 (by omega)) (fun x_457 m_457 h_457 => ?_)
  obtain ⟨rfl, g1⟩ := h_457
  obtain ⟨hFM1, hRM1⟩ := g1.toM hFM hRM
  refine ld_a2 (np := 461) dL_law_460 rfl ?_
  refine ldS_a0 (np := 462) dL_law_461 rfl ?_
  refine ld_i3 (np := 463) dL_law_462 rfl ?_
  refine wl_iconst (np := 464) (v := 1) dL_law_463 rfl (rfl) ?_
  refine wl_iadd (np := 465) dL_law_464 rfl ?_
  refine wl_sloadN (np := 466) dL_law_465 rfl hsx hb0 (by first | (simp only [nIm, nIa, ← nI_succ]; exact rfl) | exact nI_z | exact nI_o | exact rfl) (by omega) (by omega) ?_
  refine ciV_1 (np := 469) dL_law_466 rfl lk_L_50 (by assumption) (Nat.le_of_ble_eq_true rfl) (by omega) (Nat.le_refl _) (Nat.le_refl _) (c_M_coats _ hFM1 hRM1 hok.2.2 (by omega)) (fun x_466 m_466 h_466 => ?_)
  obtain ⟨rfl, g2⟩ := h_466
  have hI2 := inv_next hI g1 g2 (ok_coats hok _)
  refine wl_icmp_eq (np := 472) (tg := 1174) dL_law_469 rfl rfl (fun c_469 => ?_) (fun c_469 => ?_)
  · exact kc _ _ hI2
  · exact absurd rfl c_469
set_option maxHeartbeats 4000000 in
set_option maxRecDepth 100000 in
theorem law_8 (hI : InvL sh me S k) (hsx : sx.1 = Lx + 1) (hL : Lx ≤ 384) (h6 : 6 * k + 6 ≤ Lx) (kc : ∀ m S', InvL sh m S' (k + 1) → Wa (mL nm) sx 20 600000 7302249 0 QL 1174 [.retAddr 0, .ref 0, .ref 136, .int (nI (6 * k))] [] sh m 600000 7302249) : Wa (mL nm) sx 20 600000 7302249 0 QL 474 [.retAddr 0, .ref 0, .ref 136, .int (nI (6 * k))] [] sh me 600000 7302249 := by
  obtain ⟨hFC, hFM, hRC, hRM, hok, hb0⟩ := id hI
  have z0 := hFC.1
  have z1 := hFM.1
  refine ld_a1 (np := 475) dL_law_474 rfl ?_
  refine ldS_a0 (np := 476) dL_law_475 rfl ?_
  refine ld_i3 (np := 477) dL_law_476 rfl ?_
  refine wl_iconst (np := 478) (v := 1) dL_law_477 rfl (rfl) ?_
  refine wl_iadd (np := 479) dL_law_478 rfl ?_
  refine wl_sloadN (np := 480) dL_law_479 rfl hsx hb0 (by first | (simp only [nIm, nIa, ← nI_succ]; exact rfl) | exact nI_z | exact nI_o | exact rfl) (by omega) (by omega) ?_
  refine ciV_1 (np := 483) dL_law_480 rfl lk_L_51 (by assumption) (Nat.le_of_ble_eq_true rfl) (by omega) (Nat.le_refl _) (Nat.le_refl _) (c_dc_count _ hFC hRC (by omega)) (fun x_480 m_480 h_480 => ?_)
  obtain ⟨rfl, g1⟩ := h_480
  obtain ⟨hFM1, hRM1⟩ := g1.toM hFM hRM
  refine ld_a2 (np := 484) dL_law_483 rfl ?_
  refine ldS_a0 (np := 485) dL_law_484 rfl ?_
  refine ld_i3 (np := 486) dL_law_485 rfl ?_
  refine wl_iconst (np := 487) (v := 1) dL_law_486 rfl (rfl) ?_
  refine wl_iadd (np := 488) dL_law_487 rfl ?_
  refine wl_sloadN (np := 489) dL_law_488 rfl hsx hb0 (by first | (simp only [nIm, nIa, ← nI_succ]; exact rfl) | exact nI_z | exact nI_o | exact rfl) (by omega) (by omega) ?_
  refine ciV_1 (np := 492) dL_law_489 rfl lk_L_54 (by assumption) (Nat.le_of_ble_eq_true rfl) (by omega) (Nat.le_refl _) (Nat.le_refl _) (c_M_count _ hFM1 hRM1) (fun x_489 m_489 h_489 => ?_)
  obtain ⟨rfl, g2⟩ := h_489
  have hI2 := inv_next hI g1 g2 (ok_count hok _)
  refine wl_icmp_eq (np := 495) (tg := 1174) dL_law_492 rfl rfl (fun c_492 => ?_) (fun c_492 => ?_)
  · exact kc _ _ hI2
  · exact absurd rfl c_492
set_option maxHeartbeats 4000000 in
set_option maxRecDepth 100000 in
theorem law_9 (hI : InvL sh me S k) (hsx : sx.1 = Lx + 1) (hL : Lx ≤ 384) (h6 : 6 * k + 6 ≤ Lx) (kc : ∀ m S', InvL sh m S' (k + 1) → Wa (mL nm) sx 20 600000 7302249 0 QL 1174 [.retAddr 0, .ref 0, .ref 136, .int (nI (6 * k))] [] sh m 600000 7302249) : Wa (mL nm) sx 20 600000 7302249 0 QL 497 [.retAddr 0, .ref 0, .ref 136, .int (nI (6 * k))] [] sh me 600000 7302249 := by
  obtain ⟨hFC, hFM, hRC, hRM, hok, hb0⟩ := id hI
  have z0 := hFC.1
  have z1 := hFM.1
  refine ld_a1 (np := 498) dL_law_497 rfl ?_
  refine ldS_a0 (np := 499) dL_law_498 rfl ?_
  refine ld_i3 (np := 500) dL_law_499 rfl ?_
  refine wl_iconst (np := 501) (v := 1) dL_law_500 rfl (rfl) ?_
  refine wl_iadd (np := 502) dL_law_501 rfl ?_
  refine wl_sloadN (np := 503) dL_law_502 rfl hsx hb0 (by first | (simp only [nIm, nIa, ← nI_succ]; exact rfl) | exact nI_z | exact nI_o | exact rfl) (by omega) (by omega) ?_
  refine ldS_a0 (np := 504) dL_law_503 rfl ?_
  refine ld_i3 (np := 505) dL_law_504 rfl ?_
  refine wl_iconst (np := 506) (v := nI 2) dL_law_505 rfl (rfl) ?_
  refine wl_iadd (np := 507) dL_law_506 rfl ?_
  refine wl_sloadN (np := 508) dL_law_507 rfl hsx hb0 (by first | (simp only [nIm, nIa, ← nI_succ]; exact rfl) | exact nI_z | exact nI_o | exact rfl) (by omega) (by omega) ?_
  refine ldS_a0 (np := 509) dL_law_508 rfl ?_
  refine ld_i3 (np := 510) dL_law_509 rfl ?_
  refine wl_iconst (np := 511) (v := nI 3) dL_law_510 rfl (rfl) ?_
  refine wl_iadd (np := 512) dL_law_511 rfl ?_
  refine wl_sloadN (np := 513) dL_law_512 rfl hsx hb0 (by first | (simp only [nIm, nIa, ← nI_succ]; exact rfl) | exact nI_z | exact nI_o | exact rfl) (by omega) (by omega) ?_
  refine ldS_a0 (np := 514) dL_law_513 rfl ?_
  refine ld_i3 (np := 515) dL_law_514 rfl ?_
  refine wl_iconst (np := 516) (v := nI 4) dL_law_515 rfl (rfl) ?_
  refine wl_iadd (np := 517) dL_law_516 rfl ?_
  refine wl_sloadN (np := 518) dL_law_517 rfl hsx hb0 (by first | (simp only [nIm, nIa, ← nI_succ]; exact rfl) | exact nI_z | exact nI_o | exact rfl) (by omega) (by omega) ?_
  refine ldS_a0 (np := 519) dL_law_518 rfl ?_
  refine ld_i3 (np := 520) dL_law_519 rfl ?_
  refine wl_iconst (np := 521) (v := nI 5) dL_law_520 rfl (rfl) ?_
  refine wl_iadd (np := 522) dL_law_521 rfl ?_
  refine wl_sloadN (np := 523) dL_law_522 rfl hsx hb0 (by first | (simp only [nIm, nIa, ← nI_succ]; exact rfl) | exact nI_z | exact nI_o | exact rfl) (by omega) (by omega) ?_
  refine ciV_5 (np := 526) dL_law_523 rfl lk_L_55 (by assumption) (Nat.le_of_ble_eq_true rfl) (by omega) (Nat.le_refl _) (Nat.le_refl _) (c_dc_take _ _ _ _ _ hFC hRC (by omega)) (fun x_523 m_523 h_523 => ?_)
  obtain ⟨rfl, g1⟩ := h_523
  obtain ⟨hFM1, hRM1⟩ := g1.toM hFM hRM
  refine ld_a2 (np := 527) dL_law_526 rfl ?_
  refine ldS_a0 (np := 528) dL_law_527 rfl ?_
  refine ld_i3 (np := 529) dL_law_528 rfl ?_
  refine wl_iconst (np := 530) (v := 1) dL_law_529 rfl (rfl) ?_
  refine wl_iadd (np := 531) dL_law_530 rfl ?_
  refine wl_sloadN (np := 532) dL_law_531 rfl hsx hb0 (by first | (simp only [nIm, nIa, ← nI_succ]; exact rfl) | exact nI_z | exact nI_o | exact rfl) (by omega) (by omega) ?_
  refine ldS_a0 (np := 533) dL_law_532 rfl ?_
  refine ld_i3 (np := 534) dL_law_533 rfl ?_
  refine wl_iconst (np := 535) (v := nI 2) dL_law_534 rfl (rfl) ?_
  refine wl_iadd (np := 536) dL_law_535 rfl ?_
  refine wl_sloadN (np := 537) dL_law_536 rfl hsx hb0 (by first | (simp only [nIm, nIa, ← nI_succ]; exact rfl) | exact nI_z | exact nI_o | exact rfl) (by omega) (by omega) ?_
  refine ldS_a0 (np := 538) dL_law_537 rfl ?_
  refine ld_i3 (np := 539) dL_law_538 rfl ?_
  refine wl_iconst (np := 540) (v := nI 3) dL_law_539 rfl (rfl) ?_
  refine wl_iadd (np := 541) dL_law_540 rfl ?_
  refine wl_sloadN (np := 542) dL_law_541 rfl hsx hb0 (by first | (simp only [nIm, nIa, ← nI_succ]; exact rfl) | exact nI_z | exact nI_o | exact rfl) (by omega) (by omega) ?_
  refine ldS_a0 (np := 543) dL_law_542 rfl ?_
  refine ld_i3 (np := 544) dL_law_543 rfl ?_
  refine wl_iconst (np := 545) (v := nI 4) dL_law_544 rfl (rfl) ?_
  refine wl_iadd (np := 546) dL_law_545 rfl ?_
  refine wl_sloadN (np := 547) dL_law_546 rfl hsx hb0 (by first | (simp only [nIm, nIa, ← nI_succ]; exact rfl) | exact nI_z | exact nI_o | exact rfl) (by omega) (by omega) ?_
  refine ldS_a0 (np := 548) dL_law_547 rfl ?_
  refine ld_i3 (np := 549) dL_law_548 rfl ?_
  refine wl_iconst (np := 550) (v := nI 5) dL_law_549 rfl (rfl) ?_
  refine wl_iadd (np := 551) dL_law_550 rfl ?_
  refine wl_sloadN (np := 552) dL_law_551 rfl hsx hb0 (by first | (simp only [nIm, nIa, ← nI_succ]; exact rfl) | exact nI_z | exact nI_o | exact rfl) (by omega) (by omega) ?_
  refine ciV_5 (np := 555) dL_law_552 rfl lk_L_59 (by assumption) (Nat.le_of_ble_eq_true rfl) (by omega) (Nat.le_refl _) (Nat.le_refl _) (c_M_take _ _ _ _ _ hFM1 hRM1 (by omega)) (fun x_552 m_552 h_552 => ?_)
  obtain ⟨rfl, g2⟩ := h_552
  have hI2 := inv_next hI g1 g2 (ok_takeS hok (by omega) _ _ _ _ _)
  refine wl_icmp_eq (np := 558) (tg := 1174) dL_law_555 rfl rfl (fun c_555 => ?_) (fun c_555 => ?_)
  · exact kc _ _ hI2
  · exact absurd rfl c_555
set_option maxHeartbeats 4000000 in
set_option maxRecDepth 100000 in
theorem law_10 (hI : InvL sh me S k) (hsx : sx.1 = Lx + 1) (hL : Lx ≤ 384) (h6 : 6 * k + 6 ≤ Lx) (kc : ∀ m S', InvL sh m S' (k + 1) → Wa (mL nm) sx 20 600000 7302249 0 QL 1174 [.retAddr 0, .ref 0, .ref 136, .int (nI (6 * k))] [] sh m 600000 7302249) : Wa (mL nm) sx 20 600000 7302249 0 QL 560 [.retAddr 0, .ref 0, .ref 136, .int (nI (6 * k))] [] sh me 600000 7302249 := by
  obtain ⟨hFC, hFM, hRC, hRM, hok, hb0⟩ := id hI
  have z0 := hFC.1
  have z1 := hFM.1
  refine ld_a1 (np := 561) dL_law_560 rfl ?_
  refine ldS_a0 (np := 562) dL_law_561 rfl ?_
  refine ld_i3 (np := 563) dL_law_562 rfl ?_
  refine wl_iconst (np := 564) (v := 1) dL_law_563 rfl (rfl) ?_
  refine wl_iadd (np := 565) dL_law_564 rfl ?_
  refine wl_sloadN (np := 566) dL_law_565 rfl hsx hb0 (by first | (simp only [nIm, nIa, ← nI_succ]; exact rfl) | exact nI_z | exact nI_o | exact rfl) (by omega) (by omega) ?_
  refine ldS_a0 (np := 567) dL_law_566 rfl ?_
  refine ld_i3 (np := 568) dL_law_567 rfl ?_
  refine wl_iconst (np := 569) (v := nI 2) dL_law_568 rfl (rfl) ?_
  refine wl_iadd (np := 570) dL_law_569 rfl ?_
  refine wl_sloadN (np := 571) dL_law_570 rfl hsx hb0 (by first | (simp only [nIm, nIa, ← nI_succ]; exact rfl) | exact nI_z | exact nI_o | exact rfl) (by omega) (by omega) ?_
  refine ciV_2 (np := 574) dL_law_571 rfl lk_L_60 (by assumption) (Nat.le_of_ble_eq_true rfl) (by omega) (Nat.le_refl _) (Nat.le_refl _) (c_dc_pay _ _ hFC hRC (by omega)) (fun x_571 m_571 h_571 => ?_)
  obtain ⟨rfl, g1⟩ := h_571
  obtain ⟨hFM1, hRM1⟩ := g1.toM hFM hRM
  refine ld_a2 (np := 575) dL_law_574 rfl ?_
  refine ldS_a0 (np := 576) dL_law_575 rfl ?_
  refine ld_i3 (np := 577) dL_law_576 rfl ?_
  refine wl_iconst (np := 578) (v := 1) dL_law_577 rfl (rfl) ?_
  refine wl_iadd (np := 579) dL_law_578 rfl ?_
  refine wl_sloadN (np := 580) dL_law_579 rfl hsx hb0 (by first | (simp only [nIm, nIa, ← nI_succ]; exact rfl) | exact nI_z | exact nI_o | exact rfl) (by omega) (by omega) ?_
  refine ldS_a0 (np := 581) dL_law_580 rfl ?_
  refine ld_i3 (np := 582) dL_law_581 rfl ?_
  refine wl_iconst (np := 583) (v := nI 2) dL_law_582 rfl (rfl) ?_
  refine wl_iadd (np := 584) dL_law_583 rfl ?_
  refine wl_sloadN (np := 585) dL_law_584 rfl hsx hb0 (by first | (simp only [nIm, nIa, ← nI_succ]; exact rfl) | exact nI_z | exact nI_o | exact rfl) (by omega) (by omega) ?_
  refine ciV_2 (np := 588) dL_law_585 rfl lk_L_63 (by assumption) (Nat.le_of_ble_eq_true rfl) (by omega) (Nat.le_refl _) (Nat.le_refl _) (c_M_pay _ _ hFM1 hRM1 (by omega)) (fun x_585 m_585 h_585 => ?_)
  obtain ⟨rfl, g2⟩ := h_585
  have hI2 := inv_next hI g1 g2 (ok_payS hok _ _)
  refine wl_icmp_eq (np := 591) (tg := 1174) dL_law_588 rfl rfl (fun c_588 => ?_) (fun c_588 => ?_)
  · exact kc _ _ hI2
  · exact absurd rfl c_588
set_option maxHeartbeats 4000000 in
set_option maxRecDepth 100000 in
theorem law_11 (hI : InvL sh me S k) (hsx : sx.1 = Lx + 1) (hL : Lx ≤ 384) (h6 : 6 * k + 6 ≤ Lx) (kc : ∀ m S', InvL sh m S' (k + 1) → Wa (mL nm) sx 20 600000 7302249 0 QL 1174 [.retAddr 0, .ref 0, .ref 136, .int (nI (6 * k))] [] sh m 600000 7302249) : Wa (mL nm) sx 20 600000 7302249 0 QL 593 [.retAddr 0, .ref 0, .ref 136, .int (nI (6 * k))] [] sh me 600000 7302249 := by
  obtain ⟨hFC, hFM, hRC, hRM, hok, hb0⟩ := id hI
  have z0 := hFC.1
  have z1 := hFM.1
  refine ld_a1 (np := 594) dL_law_593 rfl ?_
  refine ldS_a0 (np := 595) dL_law_594 rfl ?_
  refine ld_i3 (np := 596) dL_law_595 rfl ?_
  refine wl_iconst (np := 597) (v := 1) dL_law_596 rfl (rfl) ?_
  refine wl_iadd (np := 598) dL_law_597 rfl ?_
  refine wl_sloadN (np := 599) dL_law_598 rfl hsx hb0 (by first | (simp only [nIm, nIa, ← nI_succ]; exact rfl) | exact nI_z | exact nI_o | exact rfl) (by omega) (by omega) ?_
  refine ciV_1 (np := 602) dL_law_599 rfl lk_L_64 (by assumption) (Nat.le_of_ble_eq_true rfl) (by omega) (Nat.le_refl _) (Nat.le_refl _) (c_dc_nights _ hFC hRC hok.len (by omega)) (fun x_599 m_599 h_599 => ?_)
  obtain ⟨rfl, g1⟩ := h_599
  obtain ⟨hFM1, hRM1⟩ := g1.toM hFM hRM
  refine ld_a2 (np := 603) dL_law_602 rfl ?_
  refine ldS_a0 (np := 604) dL_law_603 rfl ?_
  refine ld_i3 (np := 605) dL_law_604 rfl ?_
  refine wl_iconst (np := 606) (v := 1) dL_law_605 rfl (rfl) ?_
  refine wl_iadd (np := 607) dL_law_606 rfl ?_
  refine wl_sloadN (np := 608) dL_law_607 rfl hsx hb0 (by first | (simp only [nIm, nIa, ← nI_succ]; exact rfl) | exact nI_z | exact nI_o | exact rfl) (by omega) (by omega) ?_
  refine ciV_1 (np := 611) dL_law_608 rfl lk_L_67 (by assumption) (Nat.le_of_ble_eq_true rfl) (by omega) (Nat.le_refl _) (Nat.le_refl _) (c_M_nights _ hFM1 hRM1 hok.1.1 (by omega) (by omega)) (fun x_608 m_608 h_608 => ?_)
  obtain ⟨rfl, g2⟩ := h_608
  have hI2 := inv_next hI g1 g2 (ok_nights hok (by omega) _)
  refine wl_icmp_eq (np := 614) (tg := 1174) dL_law_611 rfl rfl (fun c_611 => ?_) (fun c_611 => ?_)
  · exact kc _ _ hI2
  · exact absurd rfl c_611
set_option maxHeartbeats 4000000 in
set_option maxRecDepth 100000 in
theorem law_12 (hI : InvL sh me S k) (hsx : sx.1 = Lx + 1) (hL : Lx ≤ 384) (h6 : 6 * k + 6 ≤ Lx) (kc : ∀ m S', InvL sh m S' (k + 1) → Wa (mL nm) sx 20 600000 7302249 0 QL 1174 [.retAddr 0, .ref 0, .ref 136, .int (nI (6 * k))] [] sh m 600000 7302249) : Wa (mL nm) sx 20 600000 7302249 0 QL 616 [.retAddr 0, .ref 0, .ref 136, .int (nI (6 * k))] [] sh me 600000 7302249 := by
  obtain ⟨hFC, hFM, hRC, hRM, hok, hb0⟩ := id hI
  have z0 := hFC.1
  have z1 := hFM.1
  refine ld_a1 (np := 617) dL_law_616 rfl ?_
  refine ldS_a0 (np := 618) dL_law_617 rfl ?_
  refine ld_i3 (np := 619) dL_law_618 rfl ?_
  refine wl_iconst (np := 620) (v := 1) dL_law_619 rfl (rfl) ?_
  refine wl_iadd (np := 621) dL_law_620 rfl ?_
  refine wl_sloadN (np := 622) dL_law_621 rfl hsx hb0 (by first | (simp only [nIm, nIa, ← nI_succ]; exact rfl) | exact nI_z | exact nI_o | exact rfl) (by omega) (by omega) ?_
  refine ldS_a0 (np := 623) dL_law_622 rfl ?_
  refine ld_i3 (np := 624) dL_law_623 rfl ?_
  refine wl_iconst (np := 625) (v := nI 2) dL_law_624 rfl (rfl) ?_
  refine wl_iadd (np := 626) dL_law_625 rfl ?_
  refine wl_sloadN (np := 627) dL_law_626 rfl hsx hb0 (by first | (simp only [nIm, nIa, ← nI_succ]; exact rfl) | exact nI_z | exact nI_o | exact rfl) (by omega) (by omega) ?_
  refine ciV_2 (np := 630) dL_law_627 rfl lk_L_68 (by assumption) (Nat.le_of_ble_eq_true rfl) (by omega) (Nat.le_refl _) (Nat.le_refl _) (c_dc_cut _ _ hFC hRC (by omega)) (fun x_627 m_627 h_627 => ?_)
  obtain ⟨rfl, g1⟩ := h_627
  obtain ⟨hFM1, hRM1⟩ := g1.toM hFM hRM
  refine ld_a2 (np := 631) dL_law_630 rfl ?_
  refine ldS_a0 (np := 632) dL_law_631 rfl ?_
  refine ld_i3 (np := 633) dL_law_632 rfl ?_
  refine wl_iconst (np := 634) (v := 1) dL_law_633 rfl (rfl) ?_
  refine wl_iadd (np := 635) dL_law_634 rfl ?_
  refine wl_sloadN (np := 636) dL_law_635 rfl hsx hb0 (by first | (simp only [nIm, nIa, ← nI_succ]; exact rfl) | exact nI_z | exact nI_o | exact rfl) (by omega) (by omega) ?_
  refine ldS_a0 (np := 637) dL_law_636 rfl ?_
  refine ld_i3 (np := 638) dL_law_637 rfl ?_
  refine wl_iconst (np := 639) (v := nI 2) dL_law_638 rfl (rfl) ?_
  refine wl_iadd (np := 640) dL_law_639 rfl ?_
  refine wl_sloadN (np := 641) dL_law_640 rfl hsx hb0 (by first | (simp only [nIm, nIa, ← nI_succ]; exact rfl) | exact nI_z | exact nI_o | exact rfl) (by omega) (by omega) ?_
  refine ciV_2 (np := 644) dL_law_641 rfl lk_L_71 (by assumption) (Nat.le_of_ble_eq_true rfl) (by omega) (Nat.le_refl _) (Nat.le_refl _) (c_M_cut _ _ hFM1 hRM1 (by omega)) (fun x_641 m_641 h_641 => ?_)
  obtain ⟨rfl, g2⟩ := h_641
  have hI2 := inv_next hI g1 g2 (ok_cut hok _ _)
  refine wl_icmp_eq (np := 647) (tg := 1174) dL_law_644 rfl rfl (fun c_644 => ?_) (fun c_644 => ?_)
  · exact kc _ _ hI2
  · exact absurd rfl c_644
set_option maxHeartbeats 4000000 in
set_option maxRecDepth 100000 in
theorem law_13 (hI : InvL sh me S k) (hsx : sx.1 = Lx + 1) (hL : Lx ≤ 384) (h6 : 6 * k + 6 ≤ Lx) (kc : ∀ m S', InvL sh m S' (k + 1) → Wa (mL nm) sx 20 600000 7302249 0 QL 1174 [.retAddr 0, .ref 0, .ref 136, .int (nI (6 * k))] [] sh m 600000 7302249) : Wa (mL nm) sx 20 600000 7302249 0 QL 649 [.retAddr 0, .ref 0, .ref 136, .int (nI (6 * k))] [] sh me 600000 7302249 := by
  obtain ⟨hFC, hFM, hRC, hRM, hok, hb0⟩ := id hI
  have z0 := hFC.1
  have z1 := hFM.1
  refine ld_a1 (np := 650) dL_law_649 rfl ?_
  refine ldS_a0 (np := 651) dL_law_650 rfl ?_
  refine ld_i3 (np := 652) dL_law_651 rfl ?_
  refine wl_iconst (np := 653) (v := 1) dL_law_652 rfl (rfl) ?_
  refine wl_iadd (np := 654) dL_law_653 rfl ?_
  refine wl_sloadN (np := 655) dL_law_654 rfl hsx hb0 (by first | (simp only [nIm, nIa, ← nI_succ]; exact rfl) | exact nI_z | exact nI_o | exact rfl) (by omega) (by omega) ?_
  refine ldS_a0 (np := 656) dL_law_655 rfl ?_
  refine ld_i3 (np := 657) dL_law_656 rfl ?_
  refine wl_iconst (np := 658) (v := nI 2) dL_law_657 rfl (rfl) ?_
  refine wl_iadd (np := 659) dL_law_658 rfl ?_
  refine wl_sloadN (np := 660) dL_law_659 rfl hsx hb0 (by first | (simp only [nIm, nIa, ← nI_succ]; exact rfl) | exact nI_z | exact nI_o | exact rfl) (by omega) (by omega) ?_
  refine ldS_a0 (np := 661) dL_law_660 rfl ?_
  refine ld_i3 (np := 662) dL_law_661 rfl ?_
  refine wl_iconst (np := 663) (v := nI 3) dL_law_662 rfl (rfl) ?_
  refine wl_iadd (np := 664) dL_law_663 rfl ?_
  refine wl_sloadN (np := 665) dL_law_664 rfl hsx hb0 (by first | (simp only [nIm, nIa, ← nI_succ]; exact rfl) | exact nI_z | exact nI_o | exact rfl) (by omega) (by omega) ?_
  refine ciV_3 (np := 668) dL_law_665 rfl lk_L_72 (by assumption) (Nat.le_of_ble_eq_true rfl) (by omega) (Nat.le_refl _) (Nat.le_refl _) (c_dc_ring _ _ _ hFC hRC hok.len (by omega)) (fun x_665 m_665 h_665 => ?_)
  obtain ⟨rfl, g1⟩ := h_665
  obtain ⟨hFM1, hRM1⟩ := g1.toM hFM hRM
  refine ld_a2 (np := 669) dL_law_668 rfl ?_
  refine ldS_a0 (np := 670) dL_law_669 rfl ?_
  refine ld_i3 (np := 671) dL_law_670 rfl ?_
  refine wl_iconst (np := 672) (v := 1) dL_law_671 rfl (rfl) ?_
  refine wl_iadd (np := 673) dL_law_672 rfl ?_
  refine wl_sloadN (np := 674) dL_law_673 rfl hsx hb0 (by first | (simp only [nIm, nIa, ← nI_succ]; exact rfl) | exact nI_z | exact nI_o | exact rfl) (by omega) (by omega) ?_
  refine ldS_a0 (np := 675) dL_law_674 rfl ?_
  refine ld_i3 (np := 676) dL_law_675 rfl ?_
  refine wl_iconst (np := 677) (v := nI 2) dL_law_676 rfl (rfl) ?_
  refine wl_iadd (np := 678) dL_law_677 rfl ?_
  refine wl_sloadN (np := 679) dL_law_678 rfl hsx hb0 (by first | (simp only [nIm, nIa, ← nI_succ]; exact rfl) | exact nI_z | exact nI_o | exact rfl) (by omega) (by omega) ?_
  refine ldS_a0 (np := 680) dL_law_679 rfl ?_
  refine ld_i3 (np := 681) dL_law_680 rfl ?_
  refine wl_iconst (np := 682) (v := nI 3) dL_law_681 rfl (rfl) ?_
  refine wl_iadd (np := 683) dL_law_682 rfl ?_
  refine wl_sloadN (np := 684) dL_law_683 rfl hsx hb0 (by first | (simp only [nIm, nIa, ← nI_succ]; exact rfl) | exact nI_z | exact nI_o | exact rfl) (by omega) (by omega) ?_
  refine ciV_3 (np := 687) dL_law_684 rfl lk_L_75 (by assumption) (Nat.le_of_ble_eq_true rfl) (by omega) (Nat.le_refl _) (Nat.le_refl _) (c_M_ring _ _ _ hFM1 hRM1 hok.len (by omega)) (fun x_684 m_684 h_684 => ?_)
  obtain ⟨rfl, g2⟩ := h_684
  have hI2 := inv_next hI g1 g2 (ok_ring hok _ _ _)
  refine wl_icmp_eq (np := 690) (tg := 1174) dL_law_687 rfl rfl (fun c_687 => ?_) (fun c_687 => ?_)
  · exact kc _ _ hI2
  · exact absurd rfl c_687
end LAW
