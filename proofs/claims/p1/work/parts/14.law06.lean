theorem dL_law_424 : decode code 424 = .ok (.aload_n 1, 1) := by decide +kernel
theorem dL_law_425 : decode code 425 = .ok (.aload_n 0, 1) := by decide +kernel
theorem dL_law_426 : decode code 426 = .ok (.iload_n 3, 1) := by decide +kernel
theorem dL_law_427 : decode code 427 = .ok (.iconst 1, 1) := by decide +kernel
theorem dL_law_428 : decode code 428 = .ok (.iadd, 1) := by decide +kernel
theorem dL_law_429 : decode code 429 = .ok (.iaload, 1) := by decide +kernel
theorem dL_law_430 : decode code 430 = .ok (.aload_n 0, 1) := by decide +kernel
theorem dL_law_431 : decode code 431 = .ok (.iload_n 3, 1) := by decide +kernel
theorem dL_law_432 : decode code 432 = .ok (.iconst 2, 1) := by decide +kernel
theorem dL_law_433 : decode code 433 = .ok (.iadd, 1) := by decide +kernel
theorem dL_law_434 : decode code 434 = .ok (.iaload, 1) := by decide +kernel
theorem dL_law_435 : decode code 435 = .ok (.invokevirtual 40, 3) := by decide +kernel
theorem dL_law_438 : decode code 438 = .ok (.aload_n 2, 1) := by decide +kernel
theorem dL_law_439 : decode code 439 = .ok (.aload_n 0, 1) := by decide +kernel
theorem dL_law_440 : decode code 440 = .ok (.iload_n 3, 1) := by decide +kernel
theorem dL_law_441 : decode code 441 = .ok (.iconst 1, 1) := by decide +kernel
theorem dL_law_442 : decode code 442 = .ok (.iadd, 1) := by decide +kernel
theorem dL_law_443 : decode code 443 = .ok (.iaload, 1) := by decide +kernel
theorem dL_law_444 : decode code 444 = .ok (.aload_n 0, 1) := by decide +kernel
theorem dL_law_445 : decode code 445 = .ok (.iload_n 3, 1) := by decide +kernel
theorem dL_law_446 : decode code 446 = .ok (.iconst 2, 1) := by decide +kernel
theorem dL_law_447 : decode code 447 = .ok (.iadd, 1) := by decide +kernel
theorem dL_law_448 : decode code 448 = .ok (.iaload, 1) := by decide +kernel
theorem dL_law_449 : decode code 449 = .ok (.invokevirtual 43, 3) := by decide +kernel
theorem dL_law_452 : decode code 452 = .ok (.if_icmp .eq 1328, 3) := by decide +kernel
theorem dL_law_457 : decode code 457 = .ok (.aload_n 1, 1) := by decide +kernel
theorem dL_law_458 : decode code 458 = .ok (.aload_n 0, 1) := by decide +kernel
theorem dL_law_459 : decode code 459 = .ok (.iload_n 3, 1) := by decide +kernel
theorem dL_law_460 : decode code 460 = .ok (.iconst 1, 1) := by decide +kernel
theorem dL_law_461 : decode code 461 = .ok (.iadd, 1) := by decide +kernel
theorem dL_law_462 : decode code 462 = .ok (.iaload, 1) := by decide +kernel
theorem dL_law_463 : decode code 463 = .ok (.aload_n 0, 1) := by decide +kernel
theorem dL_law_464 : decode code 464 = .ok (.iload_n 3, 1) := by decide +kernel
theorem dL_law_465 : decode code 465 = .ok (.iconst 2, 1) := by decide +kernel
theorem dL_law_466 : decode code 466 = .ok (.iadd, 1) := by decide +kernel
theorem dL_law_467 : decode code 467 = .ok (.iaload, 1) := by decide +kernel
theorem dL_law_468 : decode code 468 = .ok (.invokevirtual 44, 3) := by decide +kernel
theorem dL_law_471 : decode code 471 = .ok (.aload_n 2, 1) := by decide +kernel
theorem dL_law_472 : decode code 472 = .ok (.aload_n 0, 1) := by decide +kernel
theorem dL_law_473 : decode code 473 = .ok (.iload_n 3, 1) := by decide +kernel
theorem dL_law_474 : decode code 474 = .ok (.iconst 1, 1) := by decide +kernel
theorem dL_law_475 : decode code 475 = .ok (.iadd, 1) := by decide +kernel
theorem dL_law_476 : decode code 476 = .ok (.iaload, 1) := by decide +kernel
theorem dL_law_477 : decode code 477 = .ok (.aload_n 0, 1) := by decide +kernel
theorem dL_law_478 : decode code 478 = .ok (.iload_n 3, 1) := by decide +kernel
theorem dL_law_479 : decode code 479 = .ok (.iconst 2, 1) := by decide +kernel
theorem dL_law_480 : decode code 480 = .ok (.iadd, 1) := by decide +kernel
theorem dL_law_481 : decode code 481 = .ok (.iaload, 1) := by decide +kernel
theorem dL_law_482 : decode code 482 = .ok (.invokevirtual 47, 3) := by decide +kernel
theorem dL_law_485 : decode code 485 = .ok (.if_icmp .eq 1295, 3) := by decide +kernel
theorem dL_law_490 : decode code 490 = .ok (.aload_n 1, 1) := by decide +kernel
theorem dL_law_491 : decode code 491 = .ok (.aload_n 0, 1) := by decide +kernel
theorem dL_law_492 : decode code 492 = .ok (.iload_n 3, 1) := by decide +kernel
theorem dL_law_493 : decode code 493 = .ok (.iconst 1, 1) := by decide +kernel
theorem dL_law_494 : decode code 494 = .ok (.iadd, 1) := by decide +kernel
theorem dL_law_495 : decode code 495 = .ok (.iaload, 1) := by decide +kernel
theorem dL_law_496 : decode code 496 = .ok (.aload_n 0, 1) := by decide +kernel
theorem dL_law_497 : decode code 497 = .ok (.iload_n 3, 1) := by decide +kernel
theorem dL_law_498 : decode code 498 = .ok (.iconst 2, 1) := by decide +kernel
theorem dL_law_499 : decode code 499 = .ok (.iadd, 1) := by decide +kernel
theorem dL_law_500 : decode code 500 = .ok (.iaload, 1) := by decide +kernel
theorem dL_law_501 : decode code 501 = .ok (.invokevirtual 48, 3) := by decide +kernel
theorem dL_law_504 : decode code 504 = .ok (.aload_n 2, 1) := by decide +kernel
theorem dL_law_505 : decode code 505 = .ok (.aload_n 0, 1) := by decide +kernel
theorem dL_law_506 : decode code 506 = .ok (.iload_n 3, 1) := by decide +kernel
theorem dL_law_507 : decode code 507 = .ok (.iconst 1, 1) := by decide +kernel
theorem dL_law_508 : decode code 508 = .ok (.iadd, 1) := by decide +kernel
theorem dL_law_509 : decode code 509 = .ok (.iaload, 1) := by decide +kernel
theorem dL_law_510 : decode code 510 = .ok (.aload_n 0, 1) := by decide +kernel
theorem dL_law_511 : decode code 511 = .ok (.iload_n 3, 1) := by decide +kernel
theorem dL_law_512 : decode code 512 = .ok (.iconst 2, 1) := by decide +kernel
theorem dL_law_513 : decode code 513 = .ok (.iadd, 1) := by decide +kernel
theorem dL_law_514 : decode code 514 = .ok (.iaload, 1) := by decide +kernel
theorem dL_law_515 : decode code 515 = .ok (.invokevirtual 51, 3) := by decide +kernel
theorem dL_law_518 : decode code 518 = .ok (.if_icmp .eq 1262, 3) := by decide +kernel
theorem dL_law_523 : decode code 523 = .ok (.aload_n 1, 1) := by decide +kernel
theorem dL_law_524 : decode code 524 = .ok (.aload_n 0, 1) := by decide +kernel
theorem dL_law_525 : decode code 525 = .ok (.iload_n 3, 1) := by decide +kernel
theorem dL_law_526 : decode code 526 = .ok (.iconst 1, 1) := by decide +kernel
theorem dL_law_527 : decode code 527 = .ok (.iadd, 1) := by decide +kernel
theorem dL_law_528 : decode code 528 = .ok (.iaload, 1) := by decide +kernel
theorem dL_law_529 : decode code 529 = .ok (.aload_n 0, 1) := by decide +kernel
theorem dL_law_530 : decode code 530 = .ok (.iload_n 3, 1) := by decide +kernel
theorem dL_law_531 : decode code 531 = .ok (.iconst 2, 1) := by decide +kernel
theorem dL_law_532 : decode code 532 = .ok (.iadd, 1) := by decide +kernel
theorem dL_law_533 : decode code 533 = .ok (.iaload, 1) := by decide +kernel
theorem dL_law_534 : decode code 534 = .ok (.aload_n 0, 1) := by decide +kernel
theorem dL_law_535 : decode code 535 = .ok (.iload_n 3, 1) := by decide +kernel
theorem dL_law_536 : decode code 536 = .ok (.iconst 3, 1) := by decide +kernel
theorem dL_law_537 : decode code 537 = .ok (.iadd, 1) := by decide +kernel
theorem dL_law_538 : decode code 538 = .ok (.iaload, 1) := by decide +kernel
theorem dL_law_539 : decode code 539 = .ok (.aload_n 0, 1) := by decide +kernel
theorem dL_law_540 : decode code 540 = .ok (.iload_n 3, 1) := by decide +kernel
theorem dL_law_541 : decode code 541 = .ok (.iconst 4, 1) := by decide +kernel
theorem dL_law_542 : decode code 542 = .ok (.iadd, 1) := by decide +kernel
theorem dL_law_543 : decode code 543 = .ok (.iaload, 1) := by decide +kernel
theorem dL_law_544 : decode code 544 = .ok (.invokevirtual 52, 3) := by decide +kernel
theorem dL_law_547 : decode code 547 = .ok (.aload_n 2, 1) := by decide +kernel
theorem dL_law_548 : decode code 548 = .ok (.aload_n 0, 1) := by decide +kernel
theorem dL_law_549 : decode code 549 = .ok (.iload_n 3, 1) := by decide +kernel
theorem dL_law_550 : decode code 550 = .ok (.iconst 1, 1) := by decide +kernel
theorem dL_law_551 : decode code 551 = .ok (.iadd, 1) := by decide +kernel
theorem dL_law_552 : decode code 552 = .ok (.iaload, 1) := by decide +kernel
theorem dL_law_553 : decode code 553 = .ok (.aload_n 0, 1) := by decide +kernel
theorem dL_law_554 : decode code 554 = .ok (.iload_n 3, 1) := by decide +kernel
theorem dL_law_555 : decode code 555 = .ok (.iconst 2, 1) := by decide +kernel
theorem dL_law_556 : decode code 556 = .ok (.iadd, 1) := by decide +kernel
theorem dL_law_557 : decode code 557 = .ok (.iaload, 1) := by decide +kernel
theorem dL_law_558 : decode code 558 = .ok (.aload_n 0, 1) := by decide +kernel
theorem dL_law_559 : decode code 559 = .ok (.iload_n 3, 1) := by decide +kernel
theorem dL_law_560 : decode code 560 = .ok (.iconst 3, 1) := by decide +kernel
theorem dL_law_561 : decode code 561 = .ok (.iadd, 1) := by decide +kernel
theorem dL_law_562 : decode code 562 = .ok (.iaload, 1) := by decide +kernel
theorem dL_law_563 : decode code 563 = .ok (.aload_n 0, 1) := by decide +kernel
theorem dL_law_564 : decode code 564 = .ok (.iload_n 3, 1) := by decide +kernel
theorem dL_law_565 : decode code 565 = .ok (.iconst 4, 1) := by decide +kernel
theorem dL_law_566 : decode code 566 = .ok (.iadd, 1) := by decide +kernel
theorem dL_law_567 : decode code 567 = .ok (.iaload, 1) := by decide +kernel
theorem dL_law_568 : decode code 568 = .ok (.invokevirtual 56, 3) := by decide +kernel
theorem dL_law_571 : decode code 571 = .ok (.if_icmp .eq 1209, 3) := by decide +kernel
theorem dL_law_576 : decode code 576 = .ok (.aload_n 1, 1) := by decide +kernel
theorem dL_law_577 : decode code 577 = .ok (.aload_n 0, 1) := by decide +kernel
theorem dL_law_578 : decode code 578 = .ok (.iload_n 3, 1) := by decide +kernel
theorem dL_law_579 : decode code 579 = .ok (.iconst 1, 1) := by decide +kernel
theorem dL_law_580 : decode code 580 = .ok (.iadd, 1) := by decide +kernel
theorem dL_law_581 : decode code 581 = .ok (.iaload, 1) := by decide +kernel
theorem dL_law_582 : decode code 582 = .ok (.aload_n 0, 1) := by decide +kernel
theorem dL_law_583 : decode code 583 = .ok (.iload_n 3, 1) := by decide +kernel
theorem dL_law_584 : decode code 584 = .ok (.iconst 2, 1) := by decide +kernel
theorem dL_law_585 : decode code 585 = .ok (.iadd, 1) := by decide +kernel
theorem dL_law_586 : decode code 586 = .ok (.iaload, 1) := by decide +kernel
theorem dL_law_587 : decode code 587 = .ok (.invokevirtual 57, 3) := by decide +kernel
theorem dL_law_590 : decode code 590 = .ok (.aload_n 2, 1) := by decide +kernel
theorem dL_law_591 : decode code 591 = .ok (.aload_n 0, 1) := by decide +kernel
theorem dL_law_592 : decode code 592 = .ok (.iload_n 3, 1) := by decide +kernel
theorem dL_law_593 : decode code 593 = .ok (.iconst 1, 1) := by decide +kernel
theorem dL_law_594 : decode code 594 = .ok (.iadd, 1) := by decide +kernel
theorem dL_law_595 : decode code 595 = .ok (.iaload, 1) := by decide +kernel
theorem dL_law_596 : decode code 596 = .ok (.aload_n 0, 1) := by decide +kernel
theorem dL_law_597 : decode code 597 = .ok (.iload_n 3, 1) := by decide +kernel
theorem dL_law_598 : decode code 598 = .ok (.iconst 2, 1) := by decide +kernel
theorem dL_law_599 : decode code 599 = .ok (.iadd, 1) := by decide +kernel
theorem dL_law_600 : decode code 600 = .ok (.iaload, 1) := by decide +kernel
theorem dL_law_601 : decode code 601 = .ok (.invokevirtual 60, 3) := by decide +kernel
theorem dL_law_604 : decode code 604 = .ok (.if_icmp .eq 1176, 3) := by decide +kernel
theorem dL_law_609 : decode code 609 = .ok (.aload_n 1, 1) := by decide +kernel
theorem dL_law_610 : decode code 610 = .ok (.aload_n 0, 1) := by decide +kernel
theorem dL_law_611 : decode code 611 = .ok (.iload_n 3, 1) := by decide +kernel
theorem dL_law_612 : decode code 612 = .ok (.iconst 1, 1) := by decide +kernel
theorem dL_law_613 : decode code 613 = .ok (.iadd, 1) := by decide +kernel
theorem dL_law_614 : decode code 614 = .ok (.iaload, 1) := by decide +kernel
theorem dL_law_615 : decode code 615 = .ok (.aload_n 0, 1) := by decide +kernel
theorem dL_law_616 : decode code 616 = .ok (.iload_n 3, 1) := by decide +kernel
theorem dL_law_617 : decode code 617 = .ok (.iconst 2, 1) := by decide +kernel
theorem dL_law_618 : decode code 618 = .ok (.iadd, 1) := by decide +kernel
theorem dL_law_619 : decode code 619 = .ok (.iaload, 1) := by decide +kernel
theorem dL_law_620 : decode code 620 = .ok (.aload_n 0, 1) := by decide +kernel
theorem dL_law_621 : decode code 621 = .ok (.iload_n 3, 1) := by decide +kernel
theorem dL_law_622 : decode code 622 = .ok (.iconst 3, 1) := by decide +kernel
theorem dL_law_623 : decode code 623 = .ok (.iadd, 1) := by decide +kernel
theorem dL_law_624 : decode code 624 = .ok (.iaload, 1) := by decide +kernel
theorem dL_law_625 : decode code 625 = .ok (.invokevirtual 61, 3) := by decide +kernel
theorem dL_law_628 : decode code 628 = .ok (.aload_n 2, 1) := by decide +kernel
theorem dL_law_629 : decode code 629 = .ok (.aload_n 0, 1) := by decide +kernel
theorem dL_law_630 : decode code 630 = .ok (.iload_n 3, 1) := by decide +kernel
theorem dL_law_631 : decode code 631 = .ok (.iconst 1, 1) := by decide +kernel
theorem dL_law_632 : decode code 632 = .ok (.iadd, 1) := by decide +kernel
theorem dL_law_633 : decode code 633 = .ok (.iaload, 1) := by decide +kernel
theorem dL_law_634 : decode code 634 = .ok (.aload_n 0, 1) := by decide +kernel
theorem dL_law_635 : decode code 635 = .ok (.iload_n 3, 1) := by decide +kernel
theorem dL_law_636 : decode code 636 = .ok (.iconst 2, 1) := by decide +kernel
theorem dL_law_637 : decode code 637 = .ok (.iadd, 1) := by decide +kernel
theorem dL_law_638 : decode code 638 = .ok (.iaload, 1) := by decide +kernel
theorem dL_law_639 : decode code 639 = .ok (.aload_n 0, 1) := by decide +kernel
theorem dL_law_640 : decode code 640 = .ok (.iload_n 3, 1) := by decide +kernel
theorem dL_law_641 : decode code 641 = .ok (.iconst 3, 1) := by decide +kernel
theorem dL_law_642 : decode code 642 = .ok (.iadd, 1) := by decide +kernel
theorem dL_law_643 : decode code 643 = .ok (.iaload, 1) := by decide +kernel
theorem dL_law_644 : decode code 644 = .ok (.invokevirtual 64, 3) := by decide +kernel
theorem dL_law_647 : decode code 647 = .ok (.if_icmp .eq 1133, 3) := by decide +kernel
set_option maxHeartbeats 4000000 in
set_option maxRecDepth 100000 in
theorem law_6 {p : Program} {e : Env} {s : State} {m : MethodId} {below : List Frame} {meth : Method} {c : Code} (l : Launch) {b : Nat} {xs : Nat → Int32} {D : va_G} {cI : ClassId} {A : Nat → Prop} {x nw kp fu ra kr rd wd ld mt vo sh fd w0 w1 w2 w3 w4 w5 k0 k1 k2 k3 k4 k5 k6 k7 k8 h ys yk yt yf yb yz yn yc yp yw ye yx : Nat} {H : Heap} {locs : List Loc} {ls : Array Slot} (hA0 : (fun q : Nat => s.heap.size ≤ q) = A) (C0 : lw_At p s m meth c b 7 xs) (hK : va_K D vwCl [(cI, .int)] s) (hN : kNW s) (hP : va_P D vwCl [(x, .inr (10, [.ref nw, .ref kp, .ref fu, .ref ra, .ref kr, .ref rd, .ref wd, .ref ld, .ref mt, .ref vo, .ref sh, .ref fd, .int 0])), (nw, .inr (9, [.ref w0, .ref w1, .ref w2, .ref w3, .ref w4, .ref w5, .int 0, .int 40, .int 0])), (w4, .inr (8, [.ref k0, .ref k1, .ref k2, .ref k3, .ref k4, .ref k5, .ref k6, .ref k7, .ref k8, .int 0])), (fd, .inl (cI, 6, .inl (fun _ => (0 : Int32)))), (h, .inr (11, [.ref ys, .ref yk, .ref yt, .int 0, .ref yf, .ref yb, .ref yz, .ref yn, .ref yc, .int 0, .ref yp, .ref yw, .int 0, .int 0, .int 0, .int 0, .int 0, .int 0, .int 0, .int 0, .int 0, .ref ye, .int 0, .int 0, .ref yx])), (ys, .inl (cI, 1201, .inl sI)), (yf, .inl (cI, 6, .inl (fun _ => (0 : Int32))))] H) (hD : va_D A [(x, .inr (10, [.ref nw, .ref kp, .ref fu, .ref ra, .ref kr, .ref rd, .ref wd, .ref ld, .ref mt, .ref vo, .ref sh, .ref fd, .int 0])), (nw, .inr (9, [.ref w0, .ref w1, .ref w2, .ref w3, .ref w4, .ref w5, .int 0, .int 40, .int 0])), (w4, .inr (8, [.ref k0, .ref k1, .ref k2, .ref k3, .ref k4, .ref k5, .ref k6, .ref k7, .ref k8, .int 0])), (fd, .inl (cI, 6, .inl (fun _ => (0 : Int32)))), (h, .inr (11, [.ref ys, .ref yk, .ref yt, .int 0, .ref yf, .ref yb, .ref yz, .ref yn, .ref yc, .int 0, .ref yp, .ref yw, .int 0, .int 0, .int 0, .int 0, .int 0, .int 0, .int 0, .int 0, .int 0, .ref ye, .int 0, .int 0, .ref yx])), (ys, .inl (cI, 1201, .inl sI)), (yf, .inl (cI, 6, .inl (fun _ => (0 : Int32))))]) (hS : va_S A s.heap H locs) (hl : lv_has ls 4 [(3, .int 0), (2, .ref h), (1, .ref x), (0, .ref b)]) : W p l e room_1 s m #[Value.ref b] below meth c H locs 98 13371 (lw_Z below #[Value.ref b] s) (F0 m 424 ls []) := by
  obtain ⟨hx, hb, hr, hml, hown, hts, hX, hbl, hlocks, hgv⟩ := C0
  have hT : ∀ w ∈ gT, w.before #[Value.ref b] s = true := fun w h => hts w (List.mem_filter.mp h).1
  have hown : s.vm.findClass RL = some m.cls := hown
  have hA : ∀ q : Nat, s.heap.size ≤ q → A q := fun q h => by rw [← hA0]; exact h
  have hbA : ¬ A b := by rw [← hA0]; exact Nat.not_le.mpr hbl
  refine lv_aload_n hx hb dL_law_424 rfl (lv_at hl 2 rfl) ?_
  refine lv_aload_n hx hb dL_law_425 rfl (lv_at hl 3 rfl) ?_
  refine lv_iload_n hx hb dL_law_426 rfl (lv_at hl 0 rfl) ?_
  refine lv_iconst (v := 1) hx hb dL_law_427 (by decide) ?_
  refine k_iadd (v := 1) hx hb dL_law_428 (by decide) ?_
  refine k_sld (v := (xs 1)) hx hb hX hbl hbA hS (k_inl (by decide)) rfl dL_law_429 ?_
  refine lv_aload_n hx hb dL_law_430 rfl (lv_at hl 3 rfl) ?_
  refine lv_iload_n hx hb dL_law_431 rfl (lv_at hl 0 rfl) ?_
  refine lv_iconst (v := 2) hx hb dL_law_432 (by decide) ?_
  refine k_iadd (v := 2) hx hb dL_law_433 (by decide) ?_
  refine k_sld (v := (xs 2)) hx hb hX hbl hbA hS (k_inl (by decide)) rfl dL_law_434 ?_
  refine kJi (wr := [(h, .inr (11, [.ref ys, .ref yk, .ref yt, .int 0, .ref yf, .ref yb, .ref yz, .ref yn, .ref yc, .int 0, .ref yp, .ref yw, .int 0, .int 0, .int 0, .int 0, .int 0, .int 0, .int 0, .int 0, .int 0, .ref ye, .int 0, .int 0, .ref yx])), (ys, .inl (cI, 1201, .inl sI)), (yf, .inl (cI, 6, .inl (fun _ => (0 : Int32))))]) (va_runV (As := [.int (xs 1), .int (xs 2)]) (rest := []) ⟨hx, hb, hml, hown, hT⟩ (c_X10_lay l D cI x nw kp fu ra kr rd wd ld mt vo sh fd w0 w1 w2 w3 w4 w5 k0 k1 k2 k3 k4 k5 k6 k7 k8 H.size 0 (fun _ => (0 : Int32)) 0 40 0 (xs 1) (xs 2)) (cwV 2 hT (gV_in mw_607 mw_604 mw_605 mw_606 mw_1) rfl rfl rfl (by decide +kernel) ⟨Nat.le_of_ble_eq_true rfl, Nat.le_of_ble_eq_true rfl⟩) (kRecv (own := "") (q0 := 0) (ci := 10) hK hP hD hN rfl rfl [0, 1, 2, 3] rfl (by decide)) rfl rfl hl.1 rfl (lv_room (Nat.le_of_ble_eq_true rfl)) dL_law_435 ⟨Nat.le_of_ble_eq_true rfl, Nat.le_of_ble_eq_true rfl⟩) hP hD hS hA [0, 1, 2, 3] [4, 5, 6] rfl rfl (by decide) (by decide) (fun r_1 u_3 H locs w_2 hP hD hS => ?_)
  have hP : va_P D vwCl [(h, .inr (11, [.ref ys, .ref yk, .ref yt, .int 0, .ref yf, .ref yb, .ref yz, .ref yn, .ref yc, .int 0, .ref yp, .ref yw, .int 0, .int 0, .int 0, .int 0, .int 0, .int 0, .int 0, .int 0, .int 0, .ref ye, .int 0, .int 0, .ref yx])), (ys, .inl (cI, 1201, .inl sI)), (yf, .inl (cI, 6, .inl (fun _ => (0 : Int32))))] H := hP
  have hD : va_D A [(h, .inr (11, [.ref ys, .ref yk, .ref yt, .int 0, .ref yf, .ref yb, .ref yz, .ref yn, .ref yc, .int 0, .ref yp, .ref yw, .int 0, .int 0, .int 0, .int 0, .int 0, .int 0, .int 0, .int 0, .int 0, .ref ye, .int 0, .int 0, .ref yx])), (ys, .inl (cI, 1201, .inl sI)), (yf, .inl (cI, 6, .inl (fun _ => (0 : Int32))))] := hD
  have hr_1 := w_2
  obtain rfl : r_1 = (-1000001) := hr_1.trans (by decide)
  refine lv_aload_n hx hb dL_law_438 rfl (lv_at hl 1 rfl) ?_
  refine lv_aload_n hx hb dL_law_439 rfl (lv_at hl 3 rfl) ?_
  refine lv_iload_n hx hb dL_law_440 rfl (lv_at hl 0 rfl) ?_
  refine lv_iconst (v := 1) hx hb dL_law_441 (by decide) ?_
  refine k_iadd (v := 1) hx hb dL_law_442 (by decide) ?_
  refine k_sld (v := (xs 1)) hx hb hX hbl hbA hS (k_inl (by decide)) rfl dL_law_443 ?_
  refine lv_aload_n hx hb dL_law_444 rfl (lv_at hl 3 rfl) ?_
  refine lv_iload_n hx hb dL_law_445 rfl (lv_at hl 0 rfl) ?_
  refine lv_iconst (v := 2) hx hb dL_law_446 (by decide) ?_
  refine k_iadd (v := 2) hx hb dL_law_447 (by decide) ?_
  refine k_sld (v := (xs 2)) hx hb hX hbl hbA hS (k_inl (by decide)) rfl dL_law_448 ?_
  refine kJi (wr := []) (va_runV (As := [.int (xs 1), .int (xs 2)]) (rest := [.int (-1000001)]) ⟨hx, hb, hml, hown, hT⟩ (c_X11_lay l D cI h ys yk yt yf yb yz yn yc yp yw ye yx H.size 0 0 0 0 0 0 0 0 0 0 0 0 0 (fun _ => (0 : Int32)) (xs 1) (xs 2)) (cwV 2 hT (gV_in mw_1360 mw_1357 mw_1358 mw_1359 mw_12) rfl rfl rfl (by decide +kernel) ⟨Nat.le_of_ble_eq_true rfl, Nat.le_of_ble_eq_true rfl⟩) (kRecv (own := "") (q0 := 0) (ci := 11) hK hP hD hN rfl rfl [0, 1, 2] rfl (by decide)) rfl rfl hl.1 rfl (lv_room (Nat.le_of_ble_eq_true rfl)) dL_law_449 ⟨Nat.le_of_ble_eq_true rfl, Nat.le_of_ble_eq_true rfl⟩) hP hD hS hA [0, 1, 2] [] rfl rfl (by decide) (by decide) (fun r_4 u_6 H locs w_5 hP hD hS => ?_)
  have hP : va_P D vwCl [] H := hP
  have hD : va_D A [] := hD
  have hr_4 := w_5
  obtain rfl : r_4 = (-1000001) := hr_4.trans (by decide)
  refine b_icmp_eq hx hb zl_m1000001 zl_m1000001 (tgt := 1780) dL_law_452 (by decide) (fun c_7 => ?_) (fun c_7 => by exfalso; omega)
  exact law_end l hx hb hr hlocks hA0 hX hbl hS (lv_sub hl [0, 3] rfl) (Nat.le_of_ble_eq_true rfl) (Nat.le_of_ble_eq_true rfl)
set_option maxHeartbeats 4000000 in
set_option maxRecDepth 100000 in
theorem law_7 {p : Program} {e : Env} {s : State} {m : MethodId} {below : List Frame} {meth : Method} {c : Code} (l : Launch) {b : Nat} {xs : Nat → Int32} {D : va_G} {cI : ClassId} {A : Nat → Prop} {x nw kp fu ra kr rd wd ld mt vo sh fd w0 w1 w2 w3 w4 w5 k0 k1 k2 k3 k4 k5 k6 k7 k8 h ys yk yt yf yb yz yn yc yp yw ye yx : Nat} {H : Heap} {locs : List Loc} {ls : Array Slot} (hA0 : (fun q : Nat => s.heap.size ≤ q) = A) (C0 : lw_At p s m meth c b 7 xs) (hK : va_K D vwCl [(cI, .int)] s) (hN : kNW s) (hP : va_P D vwCl [(x, .inr (10, [.ref nw, .ref kp, .ref fu, .ref ra, .ref kr, .ref rd, .ref wd, .ref ld, .ref mt, .ref vo, .ref sh, .ref fd, .int 0])), (nw, .inr (9, [.ref w0, .ref w1, .ref w2, .ref w3, .ref w4, .ref w5, .int 0, .int 40, .int 0])), (w0, .inl (cI, 12, .inl (fun _ => (2 : Int32)))), (w1, .inl (cI, 40, .inl (fun _ => (0 : Int32)))), (w2, .inl (cI, 40, .inl (fun _ => (0 : Int32)))), (w4, .inr (8, [.ref k0, .ref k1, .ref k2, .ref k3, .ref k4, .ref k5, .ref k6, .ref k7, .ref k8, .int 0])), (k6, .inl (cI, 40, .inl (fun _ => (0 : Int32)))), (k7, .inl (cI, 40, .inl (fun _ => (0 : Int32)))), (fd, .inl (cI, 6, .inl (fun _ => (0 : Int32)))), (h, .inr (11, [.ref ys, .ref yk, .ref yt, .int 0, .ref yf, .ref yb, .ref yz, .ref yn, .ref yc, .int 0, .ref yp, .ref yw, .int 0, .int 0, .int 0, .int 0, .int 0, .int 0, .int 0, .int 0, .int 0, .ref ye, .int 0, .int 0, .ref yx])), (ys, .inl (cI, 1201, .inl sI)), (yf, .inl (cI, 6, .inl (fun _ => (0 : Int32))))] H) (hD : va_D A [(x, .inr (10, [.ref nw, .ref kp, .ref fu, .ref ra, .ref kr, .ref rd, .ref wd, .ref ld, .ref mt, .ref vo, .ref sh, .ref fd, .int 0])), (nw, .inr (9, [.ref w0, .ref w1, .ref w2, .ref w3, .ref w4, .ref w5, .int 0, .int 40, .int 0])), (w0, .inl (cI, 12, .inl (fun _ => (2 : Int32)))), (w1, .inl (cI, 40, .inl (fun _ => (0 : Int32)))), (w2, .inl (cI, 40, .inl (fun _ => (0 : Int32)))), (w4, .inr (8, [.ref k0, .ref k1, .ref k2, .ref k3, .ref k4, .ref k5, .ref k6, .ref k7, .ref k8, .int 0])), (k6, .inl (cI, 40, .inl (fun _ => (0 : Int32)))), (k7, .inl (cI, 40, .inl (fun _ => (0 : Int32)))), (fd, .inl (cI, 6, .inl (fun _ => (0 : Int32)))), (h, .inr (11, [.ref ys, .ref yk, .ref yt, .int 0, .ref yf, .ref yb, .ref yz, .ref yn, .ref yc, .int 0, .ref yp, .ref yw, .int 0, .int 0, .int 0, .int 0, .int 0, .int 0, .int 0, .int 0, .int 0, .ref ye, .int 0, .int 0, .ref yx])), (ys, .inl (cI, 1201, .inl sI)), (yf, .inl (cI, 6, .inl (fun _ => (0 : Int32))))]) (hS : va_S A s.heap H locs) (hl : lv_has ls 4 [(3, .int 0), (2, .ref h), (1, .ref x), (0, .ref b)]) : W p l e room_1 s m #[Value.ref b] below meth c H locs 98 13371 (lw_Z below #[Value.ref b] s) (F0 m 457 ls []) := by
  obtain ⟨hx, hb, hr, hml, hown, hts, hX, hbl, hlocks, hgv⟩ := C0
  have hT : ∀ w ∈ gT, w.before #[Value.ref b] s = true := fun w h => hts w (List.mem_filter.mp h).1
  have hown : s.vm.findClass RL = some m.cls := hown
  have hA : ∀ q : Nat, s.heap.size ≤ q → A q := fun q h => by rw [← hA0]; exact h
  have hbA : ¬ A b := by rw [← hA0]; exact Nat.not_le.mpr hbl
  refine lv_aload_n hx hb dL_law_457 rfl (lv_at hl 2 rfl) ?_
  refine lv_aload_n hx hb dL_law_458 rfl (lv_at hl 3 rfl) ?_
  refine lv_iload_n hx hb dL_law_459 rfl (lv_at hl 0 rfl) ?_
  refine lv_iconst (v := 1) hx hb dL_law_460 (by decide) ?_
  refine k_iadd (v := 1) hx hb dL_law_461 (by decide) ?_
  refine k_sld (v := (xs 1)) hx hb hX hbl hbA hS (k_inl (by decide)) rfl dL_law_462 ?_
  refine lv_aload_n hx hb dL_law_463 rfl (lv_at hl 3 rfl) ?_
  refine lv_iload_n hx hb dL_law_464 rfl (lv_at hl 0 rfl) ?_
  refine lv_iconst (v := 2) hx hb dL_law_465 (by decide) ?_
  refine k_iadd (v := 2) hx hb dL_law_466 (by decide) ?_
  refine k_sld (v := (xs 2)) hx hb hX hbl hbA hS (k_inl (by decide)) rfl dL_law_467 ?_
  refine kJi (wr := [(h, .inr (11, [.ref ys, .ref yk, .ref yt, .int 0, .ref yf, .ref yb, .ref yz, .ref yn, .ref yc, .int 0, .ref yp, .ref yw, .int 0, .int 0, .int 0, .int 0, .int 0, .int 0, .int 0, .int 0, .int 0, .ref ye, .int 0, .int 0, .ref yx])), (ys, .inl (cI, 1201, .inl sI)), (yf, .inl (cI, 6, .inl (fun _ => (0 : Int32))))]) (va_runV (As := [.int (xs 1), .int (xs 2)]) (rest := []) ⟨hx, hb, hml, hown, hT⟩ (c_X10_mileIs l D cI x nw kp fu ra kr rd wd ld mt vo sh fd w0 w1 w2 w3 w4 w5 k0 k1 k2 k3 k4 k5 k6 k7 k8 H.size 0 (fun _ => (0 : Int32)) 0 40 (xs 1) (xs 2)) (cwV 2 hT (gV_in mw_615 mw_612 mw_613 mw_614 mw_1) rfl rfl rfl (by decide +kernel) ⟨Nat.le_of_ble_eq_true rfl, Nat.le_of_ble_eq_true rfl⟩) (kRecv (own := "") (q0 := 0) (ci := 10) hK hP hD hN rfl rfl [0, 1, 2, 3, 4, 5, 6, 7, 8] rfl (by decide)) rfl rfl hl.1 rfl (lv_room (Nat.le_of_ble_eq_true rfl)) dL_law_468 ⟨Nat.le_of_ble_eq_true rfl, Nat.le_of_ble_eq_true rfl⟩) hP hD hS hA [0, 1, 2, 3, 4, 5, 6, 7, 8] [9, 10, 11] rfl rfl (by decide) (by decide) (fun r_1 u_3 H locs w_2 hP hD hS => ?_)
  have hP : va_P D vwCl [(h, .inr (11, [.ref ys, .ref yk, .ref yt, .int 0, .ref yf, .ref yb, .ref yz, .ref yn, .ref yc, .int 0, .ref yp, .ref yw, .int 0, .int 0, .int 0, .int 0, .int 0, .int 0, .int 0, .int 0, .int 0, .ref ye, .int 0, .int 0, .ref yx])), (ys, .inl (cI, 1201, .inl sI)), (yf, .inl (cI, 6, .inl (fun _ => (0 : Int32))))] H := hP
  have hD : va_D A [(h, .inr (11, [.ref ys, .ref yk, .ref yt, .int 0, .ref yf, .ref yb, .ref yz, .ref yn, .ref yc, .int 0, .ref yp, .ref yw, .int 0, .int 0, .int 0, .int 0, .int 0, .int 0, .int 0, .int 0, .int 0, .ref ye, .int 0, .int 0, .ref yx])), (ys, .inl (cI, 1201, .inl sI)), (yf, .inl (cI, 6, .inl (fun _ => (0 : Int32))))] := hD
  have hr_1 := w_2
  have hr_1 : r_1 = sp_mileIs (xs 1) (xs 2) := hr_1
  have lo_r_1 := k_lo r_1
  have hi_r_1 := k_hi r_1
  refine lv_aload_n hx hb dL_law_471 rfl (lv_at hl 1 rfl) ?_
  refine lv_aload_n hx hb dL_law_472 rfl (lv_at hl 3 rfl) ?_
  refine lv_iload_n hx hb dL_law_473 rfl (lv_at hl 0 rfl) ?_
  refine lv_iconst (v := 1) hx hb dL_law_474 (by decide) ?_
  refine k_iadd (v := 1) hx hb dL_law_475 (by decide) ?_
  refine k_sld (v := (xs 1)) hx hb hX hbl hbA hS (k_inl (by decide)) rfl dL_law_476 ?_
  refine lv_aload_n hx hb dL_law_477 rfl (lv_at hl 3 rfl) ?_
  refine lv_iload_n hx hb dL_law_478 rfl (lv_at hl 0 rfl) ?_
  refine lv_iconst (v := 2) hx hb dL_law_479 (by decide) ?_
  refine k_iadd (v := 2) hx hb dL_law_480 (by decide) ?_
  refine k_sld (v := (xs 2)) hx hb hX hbl hbA hS (k_inl (by decide)) rfl dL_law_481 ?_
  refine kJi (wr := []) (va_runV (As := [.int (xs 1), .int (xs 2)]) (rest := [.int r_1]) ⟨hx, hb, hml, hown, hT⟩ (c_X11_mileIs l D cI h ys yk yt yf yb yz yn yc yp yw ye yx H.size 0 0 0 0 0 0 0 0 0 0 0 0 0 (fun _ => (0 : Int32)) (xs 1) (xs 2)) (cwV 2 hT (gV_in mw_1364 mw_1361 mw_1362 mw_1363 mw_12) rfl rfl rfl (by decide +kernel) ⟨Nat.le_of_ble_eq_true rfl, Nat.le_of_ble_eq_true rfl⟩) (kRecv (own := "") (q0 := 0) (ci := 11) hK hP hD hN rfl rfl [0, 1, 2] rfl (by decide)) rfl rfl hl.1 rfl (lv_room (Nat.le_of_ble_eq_true rfl)) dL_law_482 ⟨Nat.le_of_ble_eq_true rfl, Nat.le_of_ble_eq_true rfl⟩) hP hD hS hA [0, 1, 2] [] rfl rfl (by decide) (by decide) (fun r_4 u_6 H locs w_5 hP hD hS => ?_)
  have hP : va_P D vwCl [] H := hP
  have hD : va_D A [] := hD
  have hr_4 := w_5
  have hr_4 : r_4 = sp_mileIs (xs 1) (xs 2) := hr_4
  have lo_r_4 := k_lo r_4
  have hi_r_4 := k_hi r_4
  refine b_icmp_eq hx hb rfl rfl (tgt := 1780) dL_law_485 (by decide) (fun _ => ?_) (fun c_ne => by exfalso; exact c_ne (congrArg Int32.toInt (hr_1.trans hr_4.symm)))
  exact law_end l hx hb hr hlocks hA0 hX hbl hS (lv_sub hl [0, 3] rfl) (Nat.le_of_ble_eq_true rfl) (Nat.le_of_ble_eq_true rfl)
set_option maxHeartbeats 4000000 in
set_option maxRecDepth 100000 in
theorem law_8 {p : Program} {e : Env} {s : State} {m : MethodId} {below : List Frame} {meth : Method} {c : Code} (l : Launch) {b : Nat} {xs : Nat → Int32} {D : va_G} {cI : ClassId} {A : Nat → Prop} {x nw kp fu ra kr rd wd ld mt vo sh fd sb sl sn h ys yk yt yf yb yz yn yc yp yw ye yx : Nat} {H : Heap} {locs : List Loc} {ls : Array Slot} (hA0 : (fun q : Nat => s.heap.size ≤ q) = A) (C0 : lw_At p s m meth c b 7 xs) (hK : va_K D vwCl [(cI, .int)] s) (hN : kNW s) (hP : va_P D vwCl [(x, .inr (10, [.ref nw, .ref kp, .ref fu, .ref ra, .ref kr, .ref rd, .ref wd, .ref ld, .ref mt, .ref vo, .ref sh, .ref fd, .int 0])), (sh, .inr (6, [.ref sb, .ref sl, .ref sn])), (sb, .inl (cI, 4, .inl (fun _ => (0 : Int32)))), (fd, .inl (cI, 6, .inl (fun _ => (0 : Int32)))), (h, .inr (11, [.ref ys, .ref yk, .ref yt, .int 0, .ref yf, .ref yb, .ref yz, .ref yn, .ref yc, .int 0, .ref yp, .ref yw, .int 0, .int 0, .int 0, .int 0, .int 0, .int 0, .int 0, .int 0, .int 0, .ref ye, .int 0, .int 0, .ref yx])), (yb, .inl (cI, 4, .inl (fun _ => (0 : Int32)))), (yf, .inl (cI, 6, .inl (fun _ => (0 : Int32))))] H) (hD : va_D A [(x, .inr (10, [.ref nw, .ref kp, .ref fu, .ref ra, .ref kr, .ref rd, .ref wd, .ref ld, .ref mt, .ref vo, .ref sh, .ref fd, .int 0])), (sh, .inr (6, [.ref sb, .ref sl, .ref sn])), (sb, .inl (cI, 4, .inl (fun _ => (0 : Int32)))), (fd, .inl (cI, 6, .inl (fun _ => (0 : Int32)))), (h, .inr (11, [.ref ys, .ref yk, .ref yt, .int 0, .ref yf, .ref yb, .ref yz, .ref yn, .ref yc, .int 0, .ref yp, .ref yw, .int 0, .int 0, .int 0, .int 0, .int 0, .int 0, .int 0, .int 0, .int 0, .ref ye, .int 0, .int 0, .ref yx])), (yb, .inl (cI, 4, .inl (fun _ => (0 : Int32)))), (yf, .inl (cI, 6, .inl (fun _ => (0 : Int32))))]) (hS : va_S A s.heap H locs) (hl : lv_has ls 4 [(3, .int 0), (2, .ref h), (1, .ref x), (0, .ref b)]) : W p l e room_1 s m #[Value.ref b] below meth c H locs 98 13371 (lw_Z below #[Value.ref b] s) (F0 m 490 ls []) := by
  obtain ⟨hx, hb, hr, hml, hown, hts, hX, hbl, hlocks, hgv⟩ := C0
  have hT : ∀ w ∈ gT, w.before #[Value.ref b] s = true := fun w h => hts w (List.mem_filter.mp h).1
  have hown : s.vm.findClass RL = some m.cls := hown
  have hA : ∀ q : Nat, s.heap.size ≤ q → A q := fun q h => by rw [← hA0]; exact h
  have hbA : ¬ A b := by rw [← hA0]; exact Nat.not_le.mpr hbl
  refine lv_aload_n hx hb dL_law_490 rfl (lv_at hl 2 rfl) ?_
  refine lv_aload_n hx hb dL_law_491 rfl (lv_at hl 3 rfl) ?_
  refine lv_iload_n hx hb dL_law_492 rfl (lv_at hl 0 rfl) ?_
  refine lv_iconst (v := 1) hx hb dL_law_493 (by decide) ?_
  refine k_iadd (v := 1) hx hb dL_law_494 (by decide) ?_
  refine k_sld (v := (xs 1)) hx hb hX hbl hbA hS (k_inl (by decide)) rfl dL_law_495 ?_
  refine lv_aload_n hx hb dL_law_496 rfl (lv_at hl 3 rfl) ?_
  refine lv_iload_n hx hb dL_law_497 rfl (lv_at hl 0 rfl) ?_
  refine lv_iconst (v := 2) hx hb dL_law_498 (by decide) ?_
  refine k_iadd (v := 2) hx hb dL_law_499 (by decide) ?_
  refine k_sld (v := (xs 2)) hx hb hX hbl hbA hS (k_inl (by decide)) rfl dL_law_500 ?_
  refine kJi (wr := [(h, .inr (11, [.ref ys, .ref yk, .ref yt, .int 0, .ref yf, .ref yb, .ref yz, .ref yn, .ref yc, .int 0, .ref yp, .ref yw, .int 0, .int 0, .int 0, .int 0, .int 0, .int 0, .int 0, .int 0, .int 0, .ref ye, .int 0, .int 0, .ref yx])), (yb, .inl (cI, 4, .inl (fun _ => (0 : Int32)))), (yf, .inl (cI, 6, .inl (fun _ => (0 : Int32))))]) (va_runV (As := [.int (xs 1), .int (xs 2)]) (rest := []) ⟨hx, hb, hml, hown, hT⟩ (c_X10_soils l D cI x nw kp fu ra kr rd wd ld mt vo sh fd sb sl sn H.size 0 (fun _ => (0 : Int32)) (xs 1) (xs 2)) (cwV 2 hT (gV_in mw_659 mw_656 mw_657 mw_658 mw_1) rfl rfl rfl (by decide +kernel) ⟨Nat.le_of_ble_eq_true rfl, Nat.le_of_ble_eq_true rfl⟩) (kRecv (own := "") (q0 := 0) (ci := 10) hK hP hD hN rfl rfl [0, 1, 2, 3] rfl (by decide)) rfl rfl hl.1 rfl (lv_room (Nat.le_of_ble_eq_true rfl)) dL_law_501 ⟨Nat.le_of_ble_eq_true rfl, Nat.le_of_ble_eq_true rfl⟩) hP hD hS hA [0, 1, 2, 3] [4, 5, 6] rfl rfl (by decide) (by decide) (fun r_1 u_3 H locs w_2 hP hD hS => ?_)
  have hP : va_P D vwCl [(h, .inr (11, [.ref ys, .ref yk, .ref yt, .int 0, .ref yf, .ref yb, .ref yz, .ref yn, .ref yc, .int 0, .ref yp, .ref yw, .int 0, .int 0, .int 0, .int 0, .int 0, .int 0, .int 0, .int 0, .int 0, .ref ye, .int 0, .int 0, .ref yx])), (yb, .inl (cI, 4, .inl (fun _ => (0 : Int32)))), (yf, .inl (cI, 6, .inl (fun _ => (0 : Int32))))] H := hP
  have hD : va_D A [(h, .inr (11, [.ref ys, .ref yk, .ref yt, .int 0, .ref yf, .ref yb, .ref yz, .ref yn, .ref yc, .int 0, .ref yp, .ref yw, .int 0, .int 0, .int 0, .int 0, .int 0, .int 0, .int 0, .int 0, .int 0, .ref ye, .int 0, .int 0, .ref yx])), (yb, .inl (cI, 4, .inl (fun _ => (0 : Int32)))), (yf, .inl (cI, 6, .inl (fun _ => (0 : Int32))))] := hD
  have hr_1 := w_2
  have hr_1 : r_1 = sp_soils (xs 1) (xs 2) := hr_1
  have lo_r_1 := k_lo r_1
  have hi_r_1 := k_hi r_1
  refine lv_aload_n hx hb dL_law_504 rfl (lv_at hl 1 rfl) ?_
  refine lv_aload_n hx hb dL_law_505 rfl (lv_at hl 3 rfl) ?_
  refine lv_iload_n hx hb dL_law_506 rfl (lv_at hl 0 rfl) ?_
  refine lv_iconst (v := 1) hx hb dL_law_507 (by decide) ?_
  refine k_iadd (v := 1) hx hb dL_law_508 (by decide) ?_
  refine k_sld (v := (xs 1)) hx hb hX hbl hbA hS (k_inl (by decide)) rfl dL_law_509 ?_
  refine lv_aload_n hx hb dL_law_510 rfl (lv_at hl 3 rfl) ?_
  refine lv_iload_n hx hb dL_law_511 rfl (lv_at hl 0 rfl) ?_
  refine lv_iconst (v := 2) hx hb dL_law_512 (by decide) ?_
  refine k_iadd (v := 2) hx hb dL_law_513 (by decide) ?_
  refine k_sld (v := (xs 2)) hx hb hX hbl hbA hS (k_inl (by decide)) rfl dL_law_514 ?_
  refine kJi (wr := []) (va_runV (As := [.int (xs 1), .int (xs 2)]) (rest := [.int r_1]) ⟨hx, hb, hml, hown, hT⟩ (c_X11_soils l D cI h ys yk yt yf yb yz yn yc yp yw ye yx H.size 0 0 0 0 0 0 0 0 0 0 0 0 0 (fun _ => (0 : Int32)) (xs 1) (xs 2)) (cwV 2 hT (gV_in mw_1388 mw_1385 mw_1386 mw_1387 mw_12) rfl rfl rfl (by decide +kernel) ⟨Nat.le_of_ble_eq_true rfl, Nat.le_of_ble_eq_true rfl⟩) (kRecv (own := "") (q0 := 0) (ci := 11) hK hP hD hN rfl rfl [0, 1, 2] rfl (by decide)) rfl rfl hl.1 rfl (lv_room (Nat.le_of_ble_eq_true rfl)) dL_law_515 ⟨Nat.le_of_ble_eq_true rfl, Nat.le_of_ble_eq_true rfl⟩) hP hD hS hA [0, 1, 2] [] rfl rfl (by decide) (by decide) (fun r_4 u_6 H locs w_5 hP hD hS => ?_)
  have hP : va_P D vwCl [] H := hP
  have hD : va_D A [] := hD
  have hr_4 := w_5
  have hr_4 : r_4 = sp_soils (xs 1) (xs 2) := hr_4
  have lo_r_4 := k_lo r_4
  have hi_r_4 := k_hi r_4
  refine b_icmp_eq hx hb rfl rfl (tgt := 1780) dL_law_518 (by decide) (fun _ => ?_) (fun c_ne => by exfalso; exact c_ne (congrArg Int32.toInt (hr_1.trans hr_4.symm)))
  exact law_end l hx hb hr hlocks hA0 hX hbl hS (lv_sub hl [0, 3] rfl) (Nat.le_of_ble_eq_true rfl) (Nat.le_of_ble_eq_true rfl)
set_option maxHeartbeats 4000000 in
set_option maxRecDepth 100000 in
theorem law_9 {p : Program} {e : Env} {s : State} {m : MethodId} {below : List Frame} {meth : Method} {c : Code} (l : Launch) {b : Nat} {xs : Nat → Int32} {D : va_G} {cI : ClassId} {A : Nat → Prop} {x nw kp fu ra kr rd wd ld mt vo sh fd w0 w1 w2 w3 w4 w5 pf h ys yk yt yf yb yz yn yc yp yw ye yx : Nat} {H : Heap} {locs : List Loc} {ls : Array Slot} (hA0 : (fun q : Nat => s.heap.size ≤ q) = A) (C0 : lw_At p s m meth c b 7 xs) (hK : va_K D vwCl [(cI, .int)] s) (hN : kNW s) (hP : va_P D vwCl [(x, .inr (10, [.ref nw, .ref kp, .ref fu, .ref ra, .ref kr, .ref rd, .ref wd, .ref ld, .ref mt, .ref vo, .ref sh, .ref fd, .int 0])), (nw, .inr (9, [.ref w0, .ref w1, .ref w2, .ref w3, .ref w4, .ref w5, .int 0, .int 40, .int 0])), (w5, .inr (3, [.ref pf, .int 0])), (pf, .inl (cI, 36, .inl (fun _ => (0 : Int32)))), (fd, .inl (cI, 6, .inl (fun _ => (0 : Int32)))), (h, .inr (11, [.ref ys, .ref yk, .ref yt, .int 0, .ref yf, .ref yb, .ref yz, .ref yn, .ref yc, .int 0, .ref yp, .ref yw, .int 0, .int 0, .int 0, .int 0, .int 0, .int 0, .int 0, .int 0, .int 0, .ref ye, .int 0, .int 0, .ref yx])), (ys, .inl (cI, 1201, .inl sI)), (yf, .inl (cI, 6, .inl (fun _ => (0 : Int32))))] H) (hD : va_D A [(x, .inr (10, [.ref nw, .ref kp, .ref fu, .ref ra, .ref kr, .ref rd, .ref wd, .ref ld, .ref mt, .ref vo, .ref sh, .ref fd, .int 0])), (nw, .inr (9, [.ref w0, .ref w1, .ref w2, .ref w3, .ref w4, .ref w5, .int 0, .int 40, .int 0])), (w5, .inr (3, [.ref pf, .int 0])), (pf, .inl (cI, 36, .inl (fun _ => (0 : Int32)))), (fd, .inl (cI, 6, .inl (fun _ => (0 : Int32)))), (h, .inr (11, [.ref ys, .ref yk, .ref yt, .int 0, .ref yf, .ref yb, .ref yz, .ref yn, .ref yc, .int 0, .ref yp, .ref yw, .int 0, .int 0, .int 0, .int 0, .int 0, .int 0, .int 0, .int 0, .int 0, .ref ye, .int 0, .int 0, .ref yx])), (ys, .inl (cI, 1201, .inl sI)), (yf, .inl (cI, 6, .inl (fun _ => (0 : Int32))))]) (hS : va_S A s.heap H locs) (hl : lv_has ls 4 [(3, .int 0), (2, .ref h), (1, .ref x), (0, .ref b)]) : W p l e room_1 s m #[Value.ref b] below meth c H locs 98 13371 (lw_Z below #[Value.ref b] s) (F0 m 523 ls []) := by
  obtain ⟨hx, hb, hr, hml, hown, hts, hX, hbl, hlocks, hgv⟩ := C0
  have hT : ∀ w ∈ gT, w.before #[Value.ref b] s = true := fun w h => hts w (List.mem_filter.mp h).1
  have hown : s.vm.findClass RL = some m.cls := hown
  have hA : ∀ q : Nat, s.heap.size ≤ q → A q := fun q h => by rw [← hA0]; exact h
  have hbA : ¬ A b := by rw [← hA0]; exact Nat.not_le.mpr hbl
  refine lv_aload_n hx hb dL_law_523 rfl (lv_at hl 2 rfl) ?_
  refine lv_aload_n hx hb dL_law_524 rfl (lv_at hl 3 rfl) ?_
  refine lv_iload_n hx hb dL_law_525 rfl (lv_at hl 0 rfl) ?_
  refine lv_iconst (v := 1) hx hb dL_law_526 (by decide) ?_
  refine k_iadd (v := 1) hx hb dL_law_527 (by decide) ?_
  refine k_sld (v := (xs 1)) hx hb hX hbl hbA hS (k_inl (by decide)) rfl dL_law_528 ?_
  refine lv_aload_n hx hb dL_law_529 rfl (lv_at hl 3 rfl) ?_
  refine lv_iload_n hx hb dL_law_530 rfl (lv_at hl 0 rfl) ?_
  refine lv_iconst (v := 2) hx hb dL_law_531 (by decide) ?_
  refine k_iadd (v := 2) hx hb dL_law_532 (by decide) ?_
  refine k_sld (v := (xs 2)) hx hb hX hbl hbA hS (k_inl (by decide)) rfl dL_law_533 ?_
  refine lv_aload_n hx hb dL_law_534 rfl (lv_at hl 3 rfl) ?_
  refine lv_iload_n hx hb dL_law_535 rfl (lv_at hl 0 rfl) ?_
  refine lv_iconst (v := 3) hx hb dL_law_536 (by decide) ?_
  refine k_iadd (v := 3) hx hb dL_law_537 (by decide) ?_
  refine k_sld (v := (xs 3)) hx hb hX hbl hbA hS (k_inl (by decide)) rfl dL_law_538 ?_
  refine lv_aload_n hx hb dL_law_539 rfl (lv_at hl 3 rfl) ?_
  refine lv_iload_n hx hb dL_law_540 rfl (lv_at hl 0 rfl) ?_
  refine lv_iconst (v := 4) hx hb dL_law_541 (by decide) ?_
  refine k_iadd (v := 4) hx hb dL_law_542 (by decide) ?_
  refine k_sld (v := (xs 4)) hx hb hX hbl hbA hS (k_inl (by decide)) rfl dL_law_543 ?_
  refine kJi (wr := [(h, .inr (11, [.ref ys, .ref yk, .ref yt, .int 0, .ref yf, .ref yb, .ref yz, .ref yn, .ref yc, .int 0, .ref yp, .ref yw, .int 0, .int 0, .int 0, .int 0, .int 0, .int 0, .int 0, .int 0, .int 0, .ref ye, .int 0, .int 0, .ref yx])), (ys, .inl (cI, 1201, .inl sI)), (yf, .inl (cI, 6, .inl (fun _ => (0 : Int32))))]) (va_runV (As := [.int (xs 1), .int (xs 2), .int (xs 3), .int (xs 4)]) (rest := []) ⟨hx, hb, hml, hown, hT⟩ (c_X10_party l D cI x nw kp fu ra kr rd wd ld mt vo sh fd w0 w1 w2 w3 w4 w5 pf H.size 0 (fun _ => (0 : Int32)) 0 40 0 (fun _ => (0 : Int32)) (xs 1) (xs 2) (xs 3) (xs 4)) (cwV 4 hT (gV_in mw_700 mw_697 mw_698 mw_699 mw_1) rfl rfl rfl (by decide +kernel) ⟨Nat.le_of_ble_eq_true rfl, Nat.le_of_ble_eq_true rfl⟩) (kRecv (own := "") (q0 := 0) (ci := 10) hK hP hD hN rfl rfl [0, 1, 2, 3, 4] rfl (by decide)) rfl rfl hl.1 rfl (lv_room (Nat.le_of_ble_eq_true rfl)) dL_law_544 ⟨Nat.le_of_ble_eq_true rfl, Nat.le_of_ble_eq_true rfl⟩) hP hD hS hA [0, 1, 2, 3, 4] [5, 6, 7] rfl rfl (by decide) (by decide) (fun r_1 u_3 H locs w_2 hP hD hS => ?_)
  have hP : va_P D vwCl [(h, .inr (11, [.ref ys, .ref yk, .ref yt, .int 0, .ref yf, .ref yb, .ref yz, .ref yn, .ref yc, .int 0, .ref yp, .ref yw, .int 0, .int 0, .int 0, .int 0, .int 0, .int 0, .int 0, .int 0, .int 0, .ref ye, .int 0, .int 0, .ref yx])), (ys, .inl (cI, 1201, .inl sI)), (yf, .inl (cI, 6, .inl (fun _ => (0 : Int32))))] H := hP
  have hD : va_D A [(h, .inr (11, [.ref ys, .ref yk, .ref yt, .int 0, .ref yf, .ref yb, .ref yz, .ref yn, .ref yc, .int 0, .ref yp, .ref yw, .int 0, .int 0, .int 0, .int 0, .int 0, .int 0, .int 0, .int 0, .int 0, .ref ye, .int 0, .int 0, .ref yx])), (ys, .inl (cI, 1201, .inl sI)), (yf, .inl (cI, 6, .inl (fun _ => (0 : Int32))))] := hD
  have hr_1 := w_2
  have hr_1 : r_1 = sp_party (xs 1) (xs 2) (xs 3) (xs 4) := hr_1
  have lo_r_1 := k_lo r_1
  have hi_r_1 := k_hi r_1
  refine lv_aload_n hx hb dL_law_547 rfl (lv_at hl 1 rfl) ?_
  refine lv_aload_n hx hb dL_law_548 rfl (lv_at hl 3 rfl) ?_
  refine lv_iload_n hx hb dL_law_549 rfl (lv_at hl 0 rfl) ?_
  refine lv_iconst (v := 1) hx hb dL_law_550 (by decide) ?_
  refine k_iadd (v := 1) hx hb dL_law_551 (by decide) ?_
  refine k_sld (v := (xs 1)) hx hb hX hbl hbA hS (k_inl (by decide)) rfl dL_law_552 ?_
  refine lv_aload_n hx hb dL_law_553 rfl (lv_at hl 3 rfl) ?_
  refine lv_iload_n hx hb dL_law_554 rfl (lv_at hl 0 rfl) ?_
  refine lv_iconst (v := 2) hx hb dL_law_555 (by decide) ?_
  refine k_iadd (v := 2) hx hb dL_law_556 (by decide) ?_
  refine k_sld (v := (xs 2)) hx hb hX hbl hbA hS (k_inl (by decide)) rfl dL_law_557 ?_
  refine lv_aload_n hx hb dL_law_558 rfl (lv_at hl 3 rfl) ?_
  refine lv_iload_n hx hb dL_law_559 rfl (lv_at hl 0 rfl) ?_
  refine lv_iconst (v := 3) hx hb dL_law_560 (by decide) ?_
  refine k_iadd (v := 3) hx hb dL_law_561 (by decide) ?_
  refine k_sld (v := (xs 3)) hx hb hX hbl hbA hS (k_inl (by decide)) rfl dL_law_562 ?_
  refine lv_aload_n hx hb dL_law_563 rfl (lv_at hl 3 rfl) ?_
  refine lv_iload_n hx hb dL_law_564 rfl (lv_at hl 0 rfl) ?_
  refine lv_iconst (v := 4) hx hb dL_law_565 (by decide) ?_
  refine k_iadd (v := 4) hx hb dL_law_566 (by decide) ?_
  refine k_sld (v := (xs 4)) hx hb hX hbl hbA hS (k_inl (by decide)) rfl dL_law_567 ?_
  refine kJi (wr := []) (va_runV (As := [.int (xs 1), .int (xs 2), .int (xs 3), .int (xs 4)]) (rest := [.int r_1]) ⟨hx, hb, hml, hown, hT⟩ (c_X11_party_ l D cI h ys yk yt yf yb yz yn yc yp yw ye yx H.size 0 0 0 0 0 0 0 0 0 0 0 0 0 (fun _ => (0 : Int32)) (xs 1) (xs 2) (xs 3) (xs 4)) (cwV 4 hT (gV_in mw_1400 mw_1397 mw_1398 mw_1399 mw_12) rfl rfl rfl (by decide +kernel) ⟨Nat.le_of_ble_eq_true rfl, Nat.le_of_ble_eq_true rfl⟩) (kRecv (own := "") (q0 := 0) (ci := 11) hK hP hD hN rfl rfl [0, 1, 2] rfl (by decide)) rfl rfl hl.1 rfl (lv_room (Nat.le_of_ble_eq_true rfl)) dL_law_568 ⟨Nat.le_of_ble_eq_true rfl, Nat.le_of_ble_eq_true rfl⟩) hP hD hS hA [0, 1, 2] [] rfl rfl (by decide) (by decide) (fun r_4 u_6 H locs w_5 hP hD hS => ?_)
  have hP : va_P D vwCl [] H := hP
  have hD : va_D A [] := hD
  have hr_4 := w_5
  have hr_4 : r_4 = sp_party (xs 1) (xs 2) (xs 3) (xs 4) := hr_4
  have lo_r_4 := k_lo r_4
  have hi_r_4 := k_hi r_4
  refine b_icmp_eq hx hb rfl rfl (tgt := 1780) dL_law_571 (by decide) (fun _ => ?_) (fun c_ne => by exfalso; exact c_ne (congrArg Int32.toInt (hr_1.trans hr_4.symm)))
  exact law_end l hx hb hr hlocks hA0 hX hbl hS (lv_sub hl [0, 3] rfl) (Nat.le_of_ble_eq_true rfl) (Nat.le_of_ble_eq_true rfl)
set_option maxHeartbeats 4000000 in
set_option maxRecDepth 100000 in
theorem law_10 {p : Program} {e : Env} {s : State} {m : MethodId} {below : List Frame} {meth : Method} {c : Code} (l : Launch) {b : Nat} {xs : Nat → Int32} {D : va_G} {cI : ClassId} {A : Nat → Prop} {x nw kp fu ra kr rd wd ld mt vo sh fd w0 w1 w2 w3 w4 w5 pf h ys yk yt yf yb yz yn yc yp yw ye yx : Nat} {H : Heap} {locs : List Loc} {ls : Array Slot} (hA0 : (fun q : Nat => s.heap.size ≤ q) = A) (C0 : lw_At p s m meth c b 7 xs) (hK : va_K D vwCl [(cI, .int)] s) (hN : kNW s) (hP : va_P D vwCl [(x, .inr (10, [.ref nw, .ref kp, .ref fu, .ref ra, .ref kr, .ref rd, .ref wd, .ref ld, .ref mt, .ref vo, .ref sh, .ref fd, .int 0])), (nw, .inr (9, [.ref w0, .ref w1, .ref w2, .ref w3, .ref w4, .ref w5, .int 0, .int 40, .int 0])), (w5, .inr (3, [.ref pf, .int 0])), (fd, .inl (cI, 6, .inl (fun _ => (0 : Int32)))), (h, .inr (11, [.ref ys, .ref yk, .ref yt, .int 0, .ref yf, .ref yb, .ref yz, .ref yn, .ref yc, .int 0, .ref yp, .ref yw, .int 0, .int 0, .int 0, .int 0, .int 0, .int 0, .int 0, .int 0, .int 0, .ref ye, .int 0, .int 0, .ref yx])), (ys, .inl (cI, 1201, .inl sI)), (yf, .inl (cI, 6, .inl (fun _ => (0 : Int32))))] H) (hD : va_D A [(x, .inr (10, [.ref nw, .ref kp, .ref fu, .ref ra, .ref kr, .ref rd, .ref wd, .ref ld, .ref mt, .ref vo, .ref sh, .ref fd, .int 0])), (nw, .inr (9, [.ref w0, .ref w1, .ref w2, .ref w3, .ref w4, .ref w5, .int 0, .int 40, .int 0])), (w5, .inr (3, [.ref pf, .int 0])), (fd, .inl (cI, 6, .inl (fun _ => (0 : Int32)))), (h, .inr (11, [.ref ys, .ref yk, .ref yt, .int 0, .ref yf, .ref yb, .ref yz, .ref yn, .ref yc, .int 0, .ref yp, .ref yw, .int 0, .int 0, .int 0, .int 0, .int 0, .int 0, .int 0, .int 0, .int 0, .ref ye, .int 0, .int 0, .ref yx])), (ys, .inl (cI, 1201, .inl sI)), (yf, .inl (cI, 6, .inl (fun _ => (0 : Int32))))]) (hS : va_S A s.heap H locs) (hl : lv_has ls 4 [(3, .int 0), (2, .ref h), (1, .ref x), (0, .ref b)]) : W p l e room_1 s m #[Value.ref b] below meth c H locs 98 13371 (lw_Z below #[Value.ref b] s) (F0 m 576 ls []) := by
  obtain ⟨hx, hb, hr, hml, hown, hts, hX, hbl, hlocks, hgv⟩ := C0
  have hT : ∀ w ∈ gT, w.before #[Value.ref b] s = true := fun w h => hts w (List.mem_filter.mp h).1
  have hown : s.vm.findClass RL = some m.cls := hown
  have hA : ∀ q : Nat, s.heap.size ≤ q → A q := fun q h => by rw [← hA0]; exact h
  have hbA : ¬ A b := by rw [← hA0]; exact Nat.not_le.mpr hbl
  refine lv_aload_n hx hb dL_law_576 rfl (lv_at hl 2 rfl) ?_
  refine lv_aload_n hx hb dL_law_577 rfl (lv_at hl 3 rfl) ?_
  refine lv_iload_n hx hb dL_law_578 rfl (lv_at hl 0 rfl) ?_
  refine lv_iconst (v := 1) hx hb dL_law_579 (by decide) ?_
  refine k_iadd (v := 1) hx hb dL_law_580 (by decide) ?_
  refine k_sld (v := (xs 1)) hx hb hX hbl hbA hS (k_inl (by decide)) rfl dL_law_581 ?_
  refine lv_aload_n hx hb dL_law_582 rfl (lv_at hl 3 rfl) ?_
  refine lv_iload_n hx hb dL_law_583 rfl (lv_at hl 0 rfl) ?_
  refine lv_iconst (v := 2) hx hb dL_law_584 (by decide) ?_
  refine k_iadd (v := 2) hx hb dL_law_585 (by decide) ?_
  refine k_sld (v := (xs 2)) hx hb hX hbl hbA hS (k_inl (by decide)) rfl dL_law_586 ?_
  refine kJi (wr := [(h, .inr (11, [.ref ys, .ref yk, .ref yt, .int 0, .ref yf, .ref yb, .ref yz, .ref yn, .ref yc, .int 0, .ref yp, .ref yw, .int 0, .int 0, .int 0, .int 0, .int 0, .int 0, .int 0, .int 0, .int 0, .ref ye, .int 0, .int 0, .ref yx])), (ys, .inl (cI, 1201, .inl sI)), (yf, .inl (cI, 6, .inl (fun _ => (0 : Int32))))]) (va_runV (As := [.int (xs 1), .int (xs 2)]) (rest := []) ⟨hx, hb, hml, hown, hT⟩ (c_X10_partyIs l D cI x nw kp fu ra kr rd wd ld mt vo sh fd w0 w1 w2 w3 w4 w5 pf H.size 0 (fun _ => (0 : Int32)) 0 40 0 (xs 1) (xs 2)) (cwV 2 hT (gV_in mw_721 mw_718 mw_719 mw_720 mw_1) rfl rfl rfl (by decide +kernel) ⟨Nat.le_of_ble_eq_true rfl, Nat.le_of_ble_eq_true rfl⟩) (kRecv (own := "") (q0 := 0) (ci := 10) hK hP hD hN rfl rfl [0, 1, 2, 3] rfl (by decide)) rfl rfl hl.1 rfl (lv_room (Nat.le_of_ble_eq_true rfl)) dL_law_587 ⟨Nat.le_of_ble_eq_true rfl, Nat.le_of_ble_eq_true rfl⟩) hP hD hS hA [0, 1, 2, 3] [4, 5, 6] rfl rfl (by decide) (by decide) (fun r_1 u_3 H locs w_2 hP hD hS => ?_)
  have hP : va_P D vwCl [(h, .inr (11, [.ref ys, .ref yk, .ref yt, .int 0, .ref yf, .ref yb, .ref yz, .ref yn, .ref yc, .int 0, .ref yp, .ref yw, .int 0, .int 0, .int 0, .int 0, .int 0, .int 0, .int 0, .int 0, .int 0, .ref ye, .int 0, .int 0, .ref yx])), (ys, .inl (cI, 1201, .inl sI)), (yf, .inl (cI, 6, .inl (fun _ => (0 : Int32))))] H := hP
  have hD : va_D A [(h, .inr (11, [.ref ys, .ref yk, .ref yt, .int 0, .ref yf, .ref yb, .ref yz, .ref yn, .ref yc, .int 0, .ref yp, .ref yw, .int 0, .int 0, .int 0, .int 0, .int 0, .int 0, .int 0, .int 0, .int 0, .ref ye, .int 0, .int 0, .ref yx])), (ys, .inl (cI, 1201, .inl sI)), (yf, .inl (cI, 6, .inl (fun _ => (0 : Int32))))] := hD
  have hr_1 := w_2
  obtain rfl : r_1 = (-1000001) := hr_1.trans (by decide)
  refine lv_aload_n hx hb dL_law_590 rfl (lv_at hl 1 rfl) ?_
  refine lv_aload_n hx hb dL_law_591 rfl (lv_at hl 3 rfl) ?_
  refine lv_iload_n hx hb dL_law_592 rfl (lv_at hl 0 rfl) ?_
  refine lv_iconst (v := 1) hx hb dL_law_593 (by decide) ?_
  refine k_iadd (v := 1) hx hb dL_law_594 (by decide) ?_
  refine k_sld (v := (xs 1)) hx hb hX hbl hbA hS (k_inl (by decide)) rfl dL_law_595 ?_
  refine lv_aload_n hx hb dL_law_596 rfl (lv_at hl 3 rfl) ?_
  refine lv_iload_n hx hb dL_law_597 rfl (lv_at hl 0 rfl) ?_
  refine lv_iconst (v := 2) hx hb dL_law_598 (by decide) ?_
  refine k_iadd (v := 2) hx hb dL_law_599 (by decide) ?_
  refine k_sld (v := (xs 2)) hx hb hX hbl hbA hS (k_inl (by decide)) rfl dL_law_600 ?_
  refine kJi (wr := []) (va_runV (As := [.int (xs 1), .int (xs 2)]) (rest := [.int (-1000001)]) ⟨hx, hb, hml, hown, hT⟩ (c_X11_partyIs l D cI h ys yk yt yf yb yz yn yc yp yw ye yx H.size 0 0 0 0 0 0 0 0 0 0 0 0 0 (fun _ => (0 : Int32)) (xs 1) (xs 2)) (cwV 2 hT (gV_in mw_1408 mw_1405 mw_1406 mw_1407 mw_12) rfl rfl rfl (by decide +kernel) ⟨Nat.le_of_ble_eq_true rfl, Nat.le_of_ble_eq_true rfl⟩) (kRecv (own := "") (q0 := 0) (ci := 11) hK hP hD hN rfl rfl [0, 1, 2] rfl (by decide)) rfl rfl hl.1 rfl (lv_room (Nat.le_of_ble_eq_true rfl)) dL_law_601 ⟨Nat.le_of_ble_eq_true rfl, Nat.le_of_ble_eq_true rfl⟩) hP hD hS hA [0, 1, 2] [] rfl rfl (by decide) (by decide) (fun r_4 u_6 H locs w_5 hP hD hS => ?_)
  have hP : va_P D vwCl [] H := hP
  have hD : va_D A [] := hD
  have hr_4 := w_5
  obtain rfl : r_4 = (-1000001) := hr_4.trans (by decide)
  refine b_icmp_eq hx hb zl_m1000001 zl_m1000001 (tgt := 1780) dL_law_604 (by decide) (fun c_7 => ?_) (fun c_7 => by exfalso; omega)
  exact law_end l hx hb hr hlocks hA0 hX hbl hS (lv_sub hl [0, 3] rfl) (Nat.le_of_ble_eq_true rfl) (Nat.le_of_ble_eq_true rfl)
set_option maxHeartbeats 4000000 in
set_option maxRecDepth 100000 in
theorem law_11 {p : Program} {e : Env} {s : State} {m : MethodId} {below : List Frame} {meth : Method} {c : Code} (l : Launch) {b : Nat} {xs : Nat → Int32} {D : va_G} {cI : ClassId} {A : Nat → Prop} {x nw kp fu ra kr rd wd ld mt vo sh fd w0 w1 w2 w3 w4 w5 pf h ys yk yt yf yb yz yn yc yp yw ye yx : Nat} {H : Heap} {locs : List Loc} {ls : Array Slot} (hA0 : (fun q : Nat => s.heap.size ≤ q) = A) (C0 : lw_At p s m meth c b 7 xs) (hK : va_K D vwCl [(cI, .int)] s) (hN : kNW s) (hP : va_P D vwCl [(x, .inr (10, [.ref nw, .ref kp, .ref fu, .ref ra, .ref kr, .ref rd, .ref wd, .ref ld, .ref mt, .ref vo, .ref sh, .ref fd, .int 0])), (nw, .inr (9, [.ref w0, .ref w1, .ref w2, .ref w3, .ref w4, .ref w5, .int 0, .int 40, .int 0])), (w5, .inr (3, [.ref pf, .int 0])), (fd, .inl (cI, 6, .inl (fun _ => (0 : Int32)))), (h, .inr (11, [.ref ys, .ref yk, .ref yt, .int 0, .ref yf, .ref yb, .ref yz, .ref yn, .ref yc, .int 0, .ref yp, .ref yw, .int 0, .int 0, .int 0, .int 0, .int 0, .int 0, .int 0, .int 0, .int 0, .ref ye, .int 0, .int 0, .ref yx])), (ys, .inl (cI, 1201, .inl sI)), (yf, .inl (cI, 6, .inl (fun _ => (0 : Int32))))] H) (hD : va_D A [(x, .inr (10, [.ref nw, .ref kp, .ref fu, .ref ra, .ref kr, .ref rd, .ref wd, .ref ld, .ref mt, .ref vo, .ref sh, .ref fd, .int 0])), (nw, .inr (9, [.ref w0, .ref w1, .ref w2, .ref w3, .ref w4, .ref w5, .int 0, .int 40, .int 0])), (w5, .inr (3, [.ref pf, .int 0])), (fd, .inl (cI, 6, .inl (fun _ => (0 : Int32)))), (h, .inr (11, [.ref ys, .ref yk, .ref yt, .int 0, .ref yf, .ref yb, .ref yz, .ref yn, .ref yc, .int 0, .ref yp, .ref yw, .int 0, .int 0, .int 0, .int 0, .int 0, .int 0, .int 0, .int 0, .int 0, .ref ye, .int 0, .int 0, .ref yx])), (ys, .inl (cI, 1201, .inl sI)), (yf, .inl (cI, 6, .inl (fun _ => (0 : Int32))))]) (hS : va_S A s.heap H locs) (hl : lv_has ls 4 [(3, .int 0), (2, .ref h), (1, .ref x), (0, .ref b)]) : W p l e room_1 s m #[Value.ref b] below meth c H locs 98 13371 (lw_Z below #[Value.ref b] s) (F0 m 609 ls []) := by
  obtain ⟨hx, hb, hr, hml, hown, hts, hX, hbl, hlocks, hgv⟩ := C0
  have hT : ∀ w ∈ gT, w.before #[Value.ref b] s = true := fun w h => hts w (List.mem_filter.mp h).1
  have hown : s.vm.findClass RL = some m.cls := hown
  have hA : ∀ q : Nat, s.heap.size ≤ q → A q := fun q h => by rw [← hA0]; exact h
  have hbA : ¬ A b := by rw [← hA0]; exact Nat.not_le.mpr hbl
  refine lv_aload_n hx hb dL_law_609 rfl (lv_at hl 2 rfl) ?_
  refine lv_aload_n hx hb dL_law_610 rfl (lv_at hl 3 rfl) ?_
  refine lv_iload_n hx hb dL_law_611 rfl (lv_at hl 0 rfl) ?_
  refine lv_iconst (v := 1) hx hb dL_law_612 (by decide) ?_
  refine k_iadd (v := 1) hx hb dL_law_613 (by decide) ?_
  refine k_sld (v := (xs 1)) hx hb hX hbl hbA hS (k_inl (by decide)) rfl dL_law_614 ?_
  refine lv_aload_n hx hb dL_law_615 rfl (lv_at hl 3 rfl) ?_
  refine lv_iload_n hx hb dL_law_616 rfl (lv_at hl 0 rfl) ?_
  refine lv_iconst (v := 2) hx hb dL_law_617 (by decide) ?_
  refine k_iadd (v := 2) hx hb dL_law_618 (by decide) ?_
  refine k_sld (v := (xs 2)) hx hb hX hbl hbA hS (k_inl (by decide)) rfl dL_law_619 ?_
  refine lv_aload_n hx hb dL_law_620 rfl (lv_at hl 3 rfl) ?_
  refine lv_iload_n hx hb dL_law_621 rfl (lv_at hl 0 rfl) ?_
  refine lv_iconst (v := 3) hx hb dL_law_622 (by decide) ?_
  refine k_iadd (v := 3) hx hb dL_law_623 (by decide) ?_
  refine k_sld (v := (xs 3)) hx hb hX hbl hbA hS (k_inl (by decide)) rfl dL_law_624 ?_
  refine kJi (wr := [(h, .inr (11, [.ref ys, .ref yk, .ref yt, .int 0, .ref yf, .ref yb, .ref yz, .ref yn, .ref yc, .int 0, .ref yp, .ref yw, .int 0, .int 0, .int 0, .int 0, .int 0, .int 0, .int 0, .int 0, .int 0, .ref ye, .int 0, .int 0, .ref yx])), (ys, .inl (cI, 1201, .inl sI)), (yf, .inl (cI, 6, .inl (fun _ => (0 : Int32))))]) (va_runV (As := [.int (xs 1), .int (xs 2), .int (xs 3)]) (rest := []) ⟨hx, hb, hml, hown, hT⟩ (c_X10_give l D cI x nw kp fu ra kr rd wd ld mt vo sh fd w0 w1 w2 w3 w4 w5 pf H.size 0 (fun _ => (0 : Int32)) 0 40 0 (xs 1) (xs 2) (xs 3)) (cwV 3 hT (gV_in mw_730 mw_727 mw_728 mw_729 mw_1) rfl rfl rfl (by decide +kernel) ⟨Nat.le_of_ble_eq_true rfl, Nat.le_of_ble_eq_true rfl⟩) (kRecv (own := "") (q0 := 0) (ci := 10) hK hP hD hN rfl rfl [0, 1, 2, 3] rfl (by decide)) rfl rfl hl.1 rfl (lv_room (Nat.le_of_ble_eq_true rfl)) dL_law_625 ⟨Nat.le_of_ble_eq_true rfl, Nat.le_of_ble_eq_true rfl⟩) hP hD hS hA [0, 1, 2, 3] [4, 5, 6] rfl rfl (by decide) (by decide) (fun r_1 u_3 H locs w_2 hP hD hS => ?_)
  have hP : va_P D vwCl [(h, .inr (11, [.ref ys, .ref yk, .ref yt, .int 0, .ref yf, .ref yb, .ref yz, .ref yn, .ref yc, .int 0, .ref yp, .ref yw, .int 0, .int 0, .int 0, .int 0, .int 0, .int 0, .int 0, .int 0, .int 0, .ref ye, .int 0, .int 0, .ref yx])), (ys, .inl (cI, 1201, .inl sI)), (yf, .inl (cI, 6, .inl (fun _ => (0 : Int32))))] H := hP
  have hD : va_D A [(h, .inr (11, [.ref ys, .ref yk, .ref yt, .int 0, .ref yf, .ref yb, .ref yz, .ref yn, .ref yc, .int 0, .ref yp, .ref yw, .int 0, .int 0, .int 0, .int 0, .int 0, .int 0, .int 0, .int 0, .int 0, .ref ye, .int 0, .int 0, .ref yx])), (ys, .inl (cI, 1201, .inl sI)), (yf, .inl (cI, 6, .inl (fun _ => (0 : Int32))))] := hD
  have hr_1 := w_2
  obtain rfl : r_1 = (-1000001) := hr_1.trans (by decide)
  refine lv_aload_n hx hb dL_law_628 rfl (lv_at hl 1 rfl) ?_
  refine lv_aload_n hx hb dL_law_629 rfl (lv_at hl 3 rfl) ?_
  refine lv_iload_n hx hb dL_law_630 rfl (lv_at hl 0 rfl) ?_
  refine lv_iconst (v := 1) hx hb dL_law_631 (by decide) ?_
  refine k_iadd (v := 1) hx hb dL_law_632 (by decide) ?_
  refine k_sld (v := (xs 1)) hx hb hX hbl hbA hS (k_inl (by decide)) rfl dL_law_633 ?_
  refine lv_aload_n hx hb dL_law_634 rfl (lv_at hl 3 rfl) ?_
  refine lv_iload_n hx hb dL_law_635 rfl (lv_at hl 0 rfl) ?_
  refine lv_iconst (v := 2) hx hb dL_law_636 (by decide) ?_
  refine k_iadd (v := 2) hx hb dL_law_637 (by decide) ?_
  refine k_sld (v := (xs 2)) hx hb hX hbl hbA hS (k_inl (by decide)) rfl dL_law_638 ?_
  refine lv_aload_n hx hb dL_law_639 rfl (lv_at hl 3 rfl) ?_
  refine lv_iload_n hx hb dL_law_640 rfl (lv_at hl 0 rfl) ?_
  refine lv_iconst (v := 3) hx hb dL_law_641 (by decide) ?_
  refine k_iadd (v := 3) hx hb dL_law_642 (by decide) ?_
  refine k_sld (v := (xs 3)) hx hb hX hbl hbA hS (k_inl (by decide)) rfl dL_law_643 ?_
  refine kJi (wr := []) (va_runV (As := [.int (xs 1), .int (xs 2), .int (xs 3)]) (rest := [.int (-1000001)]) ⟨hx, hb, hml, hown, hT⟩ (c_X11_give l D cI h ys yk yt yf yb yz yn yc yp yw ye yx H.size 0 0 0 0 0 0 0 0 0 0 0 0 0 (fun _ => (0 : Int32)) (xs 1) (xs 2) (xs 3)) (cwV 3 hT (gV_in mw_1420 mw_1417 mw_1418 mw_1419 mw_12) rfl rfl rfl (by decide +kernel) ⟨Nat.le_of_ble_eq_true rfl, Nat.le_of_ble_eq_true rfl⟩) (kRecv (own := "") (q0 := 0) (ci := 11) hK hP hD hN rfl rfl [0, 1, 2] rfl (by decide)) rfl rfl hl.1 rfl (lv_room (Nat.le_of_ble_eq_true rfl)) dL_law_644 ⟨Nat.le_of_ble_eq_true rfl, Nat.le_of_ble_eq_true rfl⟩) hP hD hS hA [0, 1, 2] [] rfl rfl (by decide) (by decide) (fun r_4 u_6 H locs w_5 hP hD hS => ?_)
  have hP : va_P D vwCl [] H := hP
  have hD : va_D A [] := hD
  have hr_4 := w_5
  obtain rfl : r_4 = (-1000001) := hr_4.trans (by decide)
  refine b_icmp_eq hx hb zl_m1000001 zl_m1000001 (tgt := 1780) dL_law_647 (by decide) (fun c_7 => ?_) (fun c_7 => by exfalso; omega)
  exact law_end l hx hb hr hlocks hA0 hX hbl hS (lv_sub hl [0, 3] rfl) (Nat.le_of_ble_eq_true rfl) (Nat.le_of_ble_eq_true rfl)
