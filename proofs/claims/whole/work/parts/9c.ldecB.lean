theorem dL_412 : decode code 412 = .ok (.i2c, 1) := by decide +kernel
theorem dL_413 : decode code 413 = .ok (.invokevirtual 53, 3) := by decide +kernel
theorem dL_416 : decode code 416 = .ok (.if_icmp .eq 314, 3) := by decide +kernel
theorem dL_419 : decode code 419 = .ok (.iconst 0, 1) := by decide +kernel
theorem dL_420 : decode code 420 = .ok (.ireturn, 1) := by decide +kernel
theorem dL_421 : decode code 421 = .ok (.aload_n 1, 1) := by decide +kernel
theorem dL_422 : decode code 422 = .ok (.invokevirtual 54, 3) := by decide +kernel
theorem dL_425 : decode code 425 = .ok (.aload_n 2, 1) := by decide +kernel
theorem dL_426 : decode code 426 = .ok (.invokevirtual 58, 3) := by decide +kernel
theorem dL_429 : decode code 429 = .ok (.if_icmp .eq 301, 3) := by decide +kernel
theorem dL_432 : decode code 432 = .ok (.iconst 0, 1) := by decide +kernel
theorem dL_433 : decode code 433 = .ok (.ireturn, 1) := by decide +kernel
theorem dL_434 : decode code 434 = .ok (.aload_n 1, 1) := by decide +kernel
theorem dL_435 : decode code 435 = .ok (.invokevirtual 59, 3) := by decide +kernel
theorem dL_438 : decode code 438 = .ok (.aload_n 2, 1) := by decide +kernel
theorem dL_439 : decode code 439 = .ok (.invokevirtual 62, 3) := by decide +kernel
theorem dL_442 : decode code 442 = .ok (.if_icmp .eq 288, 3) := by decide +kernel
theorem dL_445 : decode code 445 = .ok (.iconst 0, 1) := by decide +kernel
theorem dL_446 : decode code 446 = .ok (.ireturn, 1) := by decide +kernel
theorem dL_447 : decode code 447 = .ok (.aload_n 1, 1) := by decide +kernel
theorem dL_448 : decode code 448 = .ok (.invokevirtual 63, 3) := by decide +kernel
theorem dL_451 : decode code 451 = .ok (.aload_n 2, 1) := by decide +kernel
theorem dL_452 : decode code 452 = .ok (.invokevirtual 66, 3) := by decide +kernel
theorem dL_455 : decode code 455 = .ok (.if_icmp .eq 275, 3) := by decide +kernel
theorem dL_458 : decode code 458 = .ok (.iconst 0, 1) := by decide +kernel
theorem dL_459 : decode code 459 = .ok (.ireturn, 1) := by decide +kernel
theorem dL_460 : decode code 460 = .ok (.aload_n 1, 1) := by decide +kernel
theorem dL_461 : decode code 461 = .ok (.invokevirtual 67, 3) := by decide +kernel
theorem dL_464 : decode code 464 = .ok (.aload_n 2, 1) := by decide +kernel
theorem dL_465 : decode code 465 = .ok (.invokevirtual 70, 3) := by decide +kernel
theorem dL_468 : decode code 468 = .ok (.if_icmp .eq 262, 3) := by decide +kernel
theorem dL_471 : decode code 471 = .ok (.iconst 0, 1) := by decide +kernel
theorem dL_472 : decode code 472 = .ok (.ireturn, 1) := by decide +kernel
theorem dL_473 : decode code 473 = .ok (.aload_n 1, 1) := by decide +kernel
theorem dL_474 : decode code 474 = .ok (.invokevirtual 71, 3) := by decide +kernel
theorem dL_477 : decode code 477 = .ok (.aload_n 2, 1) := by decide +kernel
theorem dL_478 : decode code 478 = .ok (.invokevirtual 74, 3) := by decide +kernel
theorem dL_481 : decode code 481 = .ok (.if_icmp .eq 249, 3) := by decide +kernel
theorem dL_484 : decode code 484 = .ok (.iconst 0, 1) := by decide +kernel
theorem dL_485 : decode code 485 = .ok (.ireturn, 1) := by decide +kernel
theorem dL_486 : decode code 486 = .ok (.aload_n 1, 1) := by decide +kernel
theorem dL_487 : decode code 487 = .ok (.aload_n 0, 1) := by decide +kernel
theorem dL_488 : decode code 488 = .ok (.iload_n 3, 1) := by decide +kernel
theorem dL_489 : decode code 489 = .ok (.iconst 1, 1) := by decide +kernel
theorem dL_490 : decode code 490 = .ok (.iadd, 1) := by decide +kernel
theorem dL_491 : decode code 491 = .ok (.iaload, 1) := by decide +kernel
theorem dL_492 : decode code 492 = .ok (.aload_n 0, 1) := by decide +kernel
theorem dL_493 : decode code 493 = .ok (.iload_n 3, 1) := by decide +kernel
theorem dL_494 : decode code 494 = .ok (.iconst 2, 1) := by decide +kernel
theorem dL_495 : decode code 495 = .ok (.iadd, 1) := by decide +kernel
theorem dL_496 : decode code 496 = .ok (.iaload, 1) := by decide +kernel
theorem dL_497 : decode code 497 = .ok (.invokevirtual 75, 3) := by decide +kernel
theorem dL_500 : decode code 500 = .ok (.aload_n 2, 1) := by decide +kernel
theorem dL_501 : decode code 501 = .ok (.aload_n 0, 1) := by decide +kernel
theorem dL_502 : decode code 502 = .ok (.iload_n 3, 1) := by decide +kernel
theorem dL_503 : decode code 503 = .ok (.iconst 1, 1) := by decide +kernel
theorem dL_504 : decode code 504 = .ok (.iadd, 1) := by decide +kernel
theorem dL_505 : decode code 505 = .ok (.iaload, 1) := by decide +kernel
theorem dL_506 : decode code 506 = .ok (.aload_n 0, 1) := by decide +kernel
theorem dL_507 : decode code 507 = .ok (.iload_n 3, 1) := by decide +kernel
theorem dL_508 : decode code 508 = .ok (.iconst 2, 1) := by decide +kernel
theorem dL_509 : decode code 509 = .ok (.iadd, 1) := by decide +kernel
theorem dL_510 : decode code 510 = .ok (.iaload, 1) := by decide +kernel
theorem dL_511 : decode code 511 = .ok (.invokevirtual 78, 3) := by decide +kernel
theorem dL_514 : decode code 514 = .ok (.if_icmp .eq 216, 3) := by decide +kernel
theorem dL_517 : decode code 517 = .ok (.iconst 0, 1) := by decide +kernel
theorem dL_518 : decode code 518 = .ok (.ireturn, 1) := by decide +kernel
theorem dL_519 : decode code 519 = .ok (.aload_n 1, 1) := by decide +kernel
theorem dL_520 : decode code 520 = .ok (.aload_n 0, 1) := by decide +kernel
theorem dL_521 : decode code 521 = .ok (.iload_n 3, 1) := by decide +kernel
theorem dL_522 : decode code 522 = .ok (.iconst 1, 1) := by decide +kernel
theorem dL_523 : decode code 523 = .ok (.iadd, 1) := by decide +kernel
theorem dL_524 : decode code 524 = .ok (.iaload, 1) := by decide +kernel
theorem dL_525 : decode code 525 = .ok (.aload_n 0, 1) := by decide +kernel
theorem dL_526 : decode code 526 = .ok (.iload_n 3, 1) := by decide +kernel
theorem dL_527 : decode code 527 = .ok (.iconst 2, 1) := by decide +kernel
theorem dL_528 : decode code 528 = .ok (.iadd, 1) := by decide +kernel
theorem dL_529 : decode code 529 = .ok (.iaload, 1) := by decide +kernel
theorem dL_530 : decode code 530 = .ok (.invokevirtual 79, 3) := by decide +kernel
theorem dL_533 : decode code 533 = .ok (.aload_n 2, 1) := by decide +kernel
theorem dL_534 : decode code 534 = .ok (.aload_n 0, 1) := by decide +kernel
theorem dL_535 : decode code 535 = .ok (.iload_n 3, 1) := by decide +kernel
theorem dL_536 : decode code 536 = .ok (.iconst 1, 1) := by decide +kernel
theorem dL_537 : decode code 537 = .ok (.iadd, 1) := by decide +kernel
theorem dL_538 : decode code 538 = .ok (.iaload, 1) := by decide +kernel
theorem dL_539 : decode code 539 = .ok (.aload_n 0, 1) := by decide +kernel
theorem dL_540 : decode code 540 = .ok (.iload_n 3, 1) := by decide +kernel
theorem dL_541 : decode code 541 = .ok (.iconst 2, 1) := by decide +kernel
theorem dL_542 : decode code 542 = .ok (.iadd, 1) := by decide +kernel
theorem dL_543 : decode code 543 = .ok (.iaload, 1) := by decide +kernel
theorem dL_544 : decode code 544 = .ok (.invokevirtual 82, 3) := by decide +kernel
theorem dL_547 : decode code 547 = .ok (.if_icmp .eq 183, 3) := by decide +kernel
theorem dL_550 : decode code 550 = .ok (.iconst 0, 1) := by decide +kernel
theorem dL_551 : decode code 551 = .ok (.ireturn, 1) := by decide +kernel
theorem dL_552 : decode code 552 = .ok (.aload_n 1, 1) := by decide +kernel
theorem dL_553 : decode code 553 = .ok (.aload_n 0, 1) := by decide +kernel
theorem dL_554 : decode code 554 = .ok (.iload_n 3, 1) := by decide +kernel
theorem dL_555 : decode code 555 = .ok (.iconst 1, 1) := by decide +kernel
theorem dL_556 : decode code 556 = .ok (.iadd, 1) := by decide +kernel
theorem dL_557 : decode code 557 = .ok (.iaload, 1) := by decide +kernel
theorem dL_558 : decode code 558 = .ok (.aload_n 0, 1) := by decide +kernel
theorem dL_559 : decode code 559 = .ok (.iload_n 3, 1) := by decide +kernel
theorem dL_560 : decode code 560 = .ok (.iconst 2, 1) := by decide +kernel
theorem dL_561 : decode code 561 = .ok (.iadd, 1) := by decide +kernel
theorem dL_562 : decode code 562 = .ok (.iaload, 1) := by decide +kernel
theorem dL_563 : decode code 563 = .ok (.invokevirtual 83, 3) := by decide +kernel
theorem dL_566 : decode code 566 = .ok (.aload_n 2, 1) := by decide +kernel
theorem dL_567 : decode code 567 = .ok (.aload_n 0, 1) := by decide +kernel
theorem dL_568 : decode code 568 = .ok (.iload_n 3, 1) := by decide +kernel
theorem dL_569 : decode code 569 = .ok (.iconst 1, 1) := by decide +kernel
theorem dL_570 : decode code 570 = .ok (.iadd, 1) := by decide +kernel
theorem dL_571 : decode code 571 = .ok (.iaload, 1) := by decide +kernel
theorem dL_572 : decode code 572 = .ok (.aload_n 0, 1) := by decide +kernel
theorem dL_573 : decode code 573 = .ok (.iload_n 3, 1) := by decide +kernel
theorem dL_574 : decode code 574 = .ok (.iconst 2, 1) := by decide +kernel
theorem dL_575 : decode code 575 = .ok (.iadd, 1) := by decide +kernel
theorem dL_576 : decode code 576 = .ok (.iaload, 1) := by decide +kernel
theorem dL_577 : decode code 577 = .ok (.invokevirtual 86, 3) := by decide +kernel
theorem dL_580 : decode code 580 = .ok (.if_icmp .eq 150, 3) := by decide +kernel
theorem dL_583 : decode code 583 = .ok (.iconst 0, 1) := by decide +kernel
theorem dL_584 : decode code 584 = .ok (.ireturn, 1) := by decide +kernel
theorem dL_585 : decode code 585 = .ok (.aload_n 1, 1) := by decide +kernel
theorem dL_586 : decode code 586 = .ok (.aload_n 0, 1) := by decide +kernel
theorem dL_587 : decode code 587 = .ok (.iload_n 3, 1) := by decide +kernel
theorem dL_588 : decode code 588 = .ok (.iconst 1, 1) := by decide +kernel
theorem dL_589 : decode code 589 = .ok (.iadd, 1) := by decide +kernel
theorem dL_590 : decode code 590 = .ok (.iaload, 1) := by decide +kernel
theorem dL_591 : decode code 591 = .ok (.invokevirtual 87, 3) := by decide +kernel
theorem dL_594 : decode code 594 = .ok (.aload_n 2, 1) := by decide +kernel
theorem dL_595 : decode code 595 = .ok (.aload_n 0, 1) := by decide +kernel
theorem dL_596 : decode code 596 = .ok (.iload_n 3, 1) := by decide +kernel
theorem dL_597 : decode code 597 = .ok (.iconst 1, 1) := by decide +kernel
theorem dL_598 : decode code 598 = .ok (.iadd, 1) := by decide +kernel
theorem dL_599 : decode code 599 = .ok (.iaload, 1) := by decide +kernel
theorem dL_600 : decode code 600 = .ok (.invokevirtual 90, 3) := by decide +kernel
theorem dL_603 : decode code 603 = .ok (.if_icmp .eq 127, 3) := by decide +kernel
theorem dL_606 : decode code 606 = .ok (.iconst 0, 1) := by decide +kernel
theorem dL_607 : decode code 607 = .ok (.ireturn, 1) := by decide +kernel
theorem dL_608 : decode code 608 = .ok (.aload_n 1, 1) := by decide +kernel
theorem dL_609 : decode code 609 = .ok (.aload_n 0, 1) := by decide +kernel
theorem dL_610 : decode code 610 = .ok (.iload_n 3, 1) := by decide +kernel
theorem dL_611 : decode code 611 = .ok (.iconst 1, 1) := by decide +kernel
theorem dL_612 : decode code 612 = .ok (.iadd, 1) := by decide +kernel
theorem dL_613 : decode code 613 = .ok (.iaload, 1) := by decide +kernel
theorem dL_614 : decode code 614 = .ok (.aload_n 0, 1) := by decide +kernel
theorem dL_615 : decode code 615 = .ok (.iload_n 3, 1) := by decide +kernel
theorem dL_616 : decode code 616 = .ok (.iconst 2, 1) := by decide +kernel
theorem dL_617 : decode code 617 = .ok (.iadd, 1) := by decide +kernel
theorem dL_618 : decode code 618 = .ok (.iaload, 1) := by decide +kernel
theorem dL_619 : decode code 619 = .ok (.aload_n 0, 1) := by decide +kernel
theorem dL_620 : decode code 620 = .ok (.iload_n 3, 1) := by decide +kernel
theorem dL_621 : decode code 621 = .ok (.iconst 3, 1) := by decide +kernel
theorem dL_622 : decode code 622 = .ok (.iadd, 1) := by decide +kernel
theorem dL_623 : decode code 623 = .ok (.iaload, 1) := by decide +kernel
theorem dL_624 : decode code 624 = .ok (.invokevirtual 91, 3) := by decide +kernel
theorem dL_627 : decode code 627 = .ok (.aload_n 2, 1) := by decide +kernel
theorem dL_628 : decode code 628 = .ok (.aload_n 0, 1) := by decide +kernel
theorem dL_629 : decode code 629 = .ok (.iload_n 3, 1) := by decide +kernel
theorem dL_630 : decode code 630 = .ok (.iconst 1, 1) := by decide +kernel
theorem dL_631 : decode code 631 = .ok (.iadd, 1) := by decide +kernel
theorem dL_632 : decode code 632 = .ok (.iaload, 1) := by decide +kernel
theorem dL_633 : decode code 633 = .ok (.aload_n 0, 1) := by decide +kernel
theorem dL_634 : decode code 634 = .ok (.iload_n 3, 1) := by decide +kernel
theorem dL_635 : decode code 635 = .ok (.iconst 2, 1) := by decide +kernel
theorem dL_636 : decode code 636 = .ok (.iadd, 1) := by decide +kernel
theorem dL_637 : decode code 637 = .ok (.iaload, 1) := by decide +kernel
theorem dL_638 : decode code 638 = .ok (.aload_n 0, 1) := by decide +kernel
theorem dL_639 : decode code 639 = .ok (.iload_n 3, 1) := by decide +kernel
theorem dL_640 : decode code 640 = .ok (.iconst 3, 1) := by decide +kernel
theorem dL_641 : decode code 641 = .ok (.iadd, 1) := by decide +kernel
theorem dL_642 : decode code 642 = .ok (.iaload, 1) := by decide +kernel
theorem dL_643 : decode code 643 = .ok (.invokevirtual 95, 3) := by decide +kernel
theorem dL_646 : decode code 646 = .ok (.if_icmp .eq 84, 3) := by decide +kernel
theorem dL_649 : decode code 649 = .ok (.iconst 0, 1) := by decide +kernel
theorem dL_650 : decode code 650 = .ok (.ireturn, 1) := by decide +kernel
theorem dL_651 : decode code 651 = .ok (.aload_n 1, 1) := by decide +kernel
theorem dL_652 : decode code 652 = .ok (.aload_n 0, 1) := by decide +kernel
theorem dL_653 : decode code 653 = .ok (.iload_n 3, 1) := by decide +kernel
theorem dL_654 : decode code 654 = .ok (.iconst 1, 1) := by decide +kernel
theorem dL_655 : decode code 655 = .ok (.iadd, 1) := by decide +kernel
theorem dL_656 : decode code 656 = .ok (.iaload, 1) := by decide +kernel
theorem dL_657 : decode code 657 = .ok (.aload_n 0, 1) := by decide +kernel
theorem dL_658 : decode code 658 = .ok (.iload_n 3, 1) := by decide +kernel
theorem dL_659 : decode code 659 = .ok (.iconst 2, 1) := by decide +kernel
theorem dL_660 : decode code 660 = .ok (.iadd, 1) := by decide +kernel
theorem dL_661 : decode code 661 = .ok (.iaload, 1) := by decide +kernel
theorem dL_662 : decode code 662 = .ok (.aload_n 0, 1) := by decide +kernel
theorem dL_663 : decode code 663 = .ok (.iload_n 3, 1) := by decide +kernel
theorem dL_664 : decode code 664 = .ok (.iconst 3, 1) := by decide +kernel
theorem dL_665 : decode code 665 = .ok (.iadd, 1) := by decide +kernel
theorem dL_666 : decode code 666 = .ok (.iaload, 1) := by decide +kernel
theorem dL_667 : decode code 667 = .ok (.invokevirtual 96, 3) := by decide +kernel
theorem dL_670 : decode code 670 = .ok (.aload_n 2, 1) := by decide +kernel
theorem dL_671 : decode code 671 = .ok (.aload_n 0, 1) := by decide +kernel
theorem dL_672 : decode code 672 = .ok (.iload_n 3, 1) := by decide +kernel
theorem dL_673 : decode code 673 = .ok (.iconst 1, 1) := by decide +kernel
theorem dL_674 : decode code 674 = .ok (.iadd, 1) := by decide +kernel
theorem dL_675 : decode code 675 = .ok (.iaload, 1) := by decide +kernel
theorem dL_676 : decode code 676 = .ok (.aload_n 0, 1) := by decide +kernel
theorem dL_677 : decode code 677 = .ok (.iload_n 3, 1) := by decide +kernel
theorem dL_678 : decode code 678 = .ok (.iconst 2, 1) := by decide +kernel
theorem dL_679 : decode code 679 = .ok (.iadd, 1) := by decide +kernel
theorem dL_680 : decode code 680 = .ok (.iaload, 1) := by decide +kernel
theorem dL_681 : decode code 681 = .ok (.aload_n 0, 1) := by decide +kernel
theorem dL_682 : decode code 682 = .ok (.iload_n 3, 1) := by decide +kernel
theorem dL_683 : decode code 683 = .ok (.iconst 3, 1) := by decide +kernel
theorem dL_684 : decode code 684 = .ok (.iadd, 1) := by decide +kernel
theorem dL_685 : decode code 685 = .ok (.iaload, 1) := by decide +kernel
theorem dL_686 : decode code 686 = .ok (.invokevirtual 99, 3) := by decide +kernel
theorem dL_689 : decode code 689 = .ok (.if_icmp .eq 41, 3) := by decide +kernel
theorem dL_692 : decode code 692 = .ok (.iconst 0, 1) := by decide +kernel
theorem dL_693 : decode code 693 = .ok (.ireturn, 1) := by decide +kernel
theorem dL_694 : decode code 694 = .ok (.aload_n 1, 1) := by decide +kernel
theorem dL_695 : decode code 695 = .ok (.invokevirtual 100, 3) := by decide +kernel
theorem dL_698 : decode code 698 = .ok (.aload_n 2, 1) := by decide +kernel
theorem dL_699 : decode code 699 = .ok (.invokevirtual 103, 3) := by decide +kernel
theorem dL_702 : decode code 702 = .ok (.if_icmp .eq 28, 3) := by decide +kernel
theorem dL_705 : decode code 705 = .ok (.iconst 0, 1) := by decide +kernel
theorem dL_706 : decode code 706 = .ok (.ireturn, 1) := by decide +kernel
theorem dL_707 : decode code 707 = .ok (.aload_n 1, 1) := by decide +kernel
theorem dL_708 : decode code 708 = .ok (.aload_n 0, 1) := by decide +kernel
theorem dL_709 : decode code 709 = .ok (.iload_n 3, 1) := by decide +kernel
theorem dL_710 : decode code 710 = .ok (.iconst 1, 1) := by decide +kernel
theorem dL_711 : decode code 711 = .ok (.iadd, 1) := by decide +kernel
theorem dL_712 : decode code 712 = .ok (.iaload, 1) := by decide +kernel
theorem dL_713 : decode code 713 = .ok (.invokevirtual 104, 3) := by decide +kernel
theorem dL_716 : decode code 716 = .ok (.aload_n 2, 1) := by decide +kernel
theorem dL_717 : decode code 717 = .ok (.aload_n 0, 1) := by decide +kernel
theorem dL_718 : decode code 718 = .ok (.iload_n 3, 1) := by decide +kernel
theorem dL_719 : decode code 719 = .ok (.iconst 1, 1) := by decide +kernel
theorem dL_720 : decode code 720 = .ok (.iadd, 1) := by decide +kernel
theorem dL_721 : decode code 721 = .ok (.iaload, 1) := by decide +kernel
theorem dL_722 : decode code 722 = .ok (.invokevirtual 107, 3) := by decide +kernel
theorem dL_725 : decode code 725 = .ok (.if_icmp .eq 5, 3) := by decide +kernel
theorem dL_728 : decode code 728 = .ok (.iconst 0, 1) := by decide +kernel
theorem dL_729 : decode code 729 = .ok (.ireturn, 1) := by decide +kernel
theorem dL_730 : decode code 730 = .ok (.iinc 3 5, 3) := by decide +kernel
theorem dL_733 : decode code 733 = .ok (.goto (-715), 3) := by decide +kernel
theorem dL_736 : decode code 736 = .ok (.iconst 1, 1) := by decide +kernel
theorem dL_737 : decode code 737 = .ok (.ireturn, 1) := by decide +kernel
