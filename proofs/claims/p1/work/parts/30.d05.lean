set_option maxRecDepth 100000 in
theorem dL_law_3438 : decode code 3438 = .ok (.iadd, 1) := by decide +kernel
set_option maxRecDepth 100000 in
theorem dL_law_3439 : decode code 3439 = .ok (.iaload, 1) := by decide +kernel
set_option maxRecDepth 100000 in
theorem dL_law_3440 : decode code 3440 = .ok (.invokevirtual 341, 3) := by decide +kernel
set_option maxRecDepth 100000 in
theorem dL_law_3443 : decode code 3443 = .ok (.istore 6, 2) := by decide +kernel
set_option maxRecDepth 100000 in
theorem dL_law_3445 : decode code 3445 = .ok (.aload_n 2, 1) := by decide +kernel
set_option maxRecDepth 100000 in
theorem dL_law_3446 : decode code 3446 = .ok (.invokevirtual 197, 3) := by decide +kernel
set_option maxRecDepth 100000 in
theorem dL_law_3449 : decode code 3449 = .ok (.iload 5, 2) := by decide +kernel
set_option maxRecDepth 100000 in
theorem dL_law_3451 : decode code 3451 = .ok (.if_icmp .eq 5, 3) := by decide +kernel
set_option maxRecDepth 100000 in
theorem dL_law_3456 : decode code 3456 = .ok (.iload 5, 2) := by decide +kernel
set_option maxRecDepth 100000 in
theorem dL_law_3458 : decode code 3458 = .ok (.ifCond .ne 15, 3) := by decide +kernel
set_option maxRecDepth 100000 in
theorem dL_law_3473 : decode code 3473 = .ok (.goto 626, 3) := by decide +kernel
set_option maxRecDepth 100000 in
theorem dL_law_3476 : decode code 3476 = .ok (.aload_n 1, 1) := by decide +kernel
set_option maxRecDepth 100000 in
theorem dL_law_3477 : decode code 3477 = .ok (.aload_n 0, 1) := by decide +kernel
set_option maxRecDepth 100000 in
theorem dL_law_3478 : decode code 3478 = .ok (.iload 4, 2) := by decide +kernel
set_option maxRecDepth 100000 in
theorem dL_law_3480 : decode code 3480 = .ok (.iconst 1, 1) := by decide +kernel
set_option maxRecDepth 100000 in
theorem dL_law_3481 : decode code 3481 = .ok (.iadd, 1) := by decide +kernel
set_option maxRecDepth 100000 in
theorem dL_law_3482 : decode code 3482 = .ok (.iaload, 1) := by decide +kernel
set_option maxRecDepth 100000 in
theorem dL_law_3483 : decode code 3483 = .ok (.aload_n 0, 1) := by decide +kernel
set_option maxRecDepth 100000 in
theorem dL_law_3484 : decode code 3484 = .ok (.iload 4, 2) := by decide +kernel
set_option maxRecDepth 100000 in
theorem dL_law_3486 : decode code 3486 = .ok (.iconst 2, 1) := by decide +kernel
set_option maxRecDepth 100000 in
theorem dL_law_3487 : decode code 3487 = .ok (.iadd, 1) := by decide +kernel
set_option maxRecDepth 100000 in
theorem dL_law_3488 : decode code 3488 = .ok (.iaload, 1) := by decide +kernel
set_option maxRecDepth 100000 in
theorem dL_law_3489 : decode code 3489 = .ok (.aload_n 0, 1) := by decide +kernel
set_option maxRecDepth 100000 in
theorem dL_law_3490 : decode code 3490 = .ok (.iload 4, 2) := by decide +kernel
set_option maxRecDepth 100000 in
theorem dL_law_3492 : decode code 3492 = .ok (.iconst 3, 1) := by decide +kernel
set_option maxRecDepth 100000 in
theorem dL_law_3493 : decode code 3493 = .ok (.iadd, 1) := by decide +kernel
set_option maxRecDepth 100000 in
theorem dL_law_3494 : decode code 3494 = .ok (.iaload, 1) := by decide +kernel
set_option maxRecDepth 100000 in
theorem dL_law_3495 : decode code 3495 = .ok (.aload_n 0, 1) := by decide +kernel
set_option maxRecDepth 100000 in
theorem dL_law_3496 : decode code 3496 = .ok (.iload 4, 2) := by decide +kernel
set_option maxRecDepth 100000 in
theorem dL_law_3498 : decode code 3498 = .ok (.iconst 4, 1) := by decide +kernel
set_option maxRecDepth 100000 in
theorem dL_law_3499 : decode code 3499 = .ok (.iadd, 1) := by decide +kernel
set_option maxRecDepth 100000 in
theorem dL_law_3500 : decode code 3500 = .ok (.iaload, 1) := by decide +kernel
set_option maxRecDepth 100000 in
theorem dL_law_3501 : decode code 3501 = .ok (.aload_n 3, 1) := by decide +kernel
set_option maxRecDepth 100000 in
theorem dL_law_3502 : decode code 3502 = .ok (.invokestatic 342, 3) := by decide +kernel
set_option maxRecDepth 100000 in
theorem dL_law_3505 : decode code 3505 = .ok (.istore 5, 2) := by decide +kernel
set_option maxRecDepth 100000 in
theorem dL_law_3507 : decode code 3507 = .ok (.aload_n 2, 1) := by decide +kernel
set_option maxRecDepth 100000 in
theorem dL_law_3508 : decode code 3508 = .ok (.aload_n 0, 1) := by decide +kernel
set_option maxRecDepth 100000 in
theorem dL_law_3509 : decode code 3509 = .ok (.iload 4, 2) := by decide +kernel
set_option maxRecDepth 100000 in
theorem dL_law_3511 : decode code 3511 = .ok (.iconst 1, 1) := by decide +kernel
set_option maxRecDepth 100000 in
theorem dL_law_3512 : decode code 3512 = .ok (.iadd, 1) := by decide +kernel
set_option maxRecDepth 100000 in
theorem dL_law_3513 : decode code 3513 = .ok (.iaload, 1) := by decide +kernel
set_option maxRecDepth 100000 in
theorem dL_law_3514 : decode code 3514 = .ok (.aload_n 0, 1) := by decide +kernel
set_option maxRecDepth 100000 in
theorem dL_law_3515 : decode code 3515 = .ok (.iload 4, 2) := by decide +kernel
set_option maxRecDepth 100000 in
theorem dL_law_3517 : decode code 3517 = .ok (.iconst 2, 1) := by decide +kernel
set_option maxRecDepth 100000 in
theorem dL_law_3518 : decode code 3518 = .ok (.iadd, 1) := by decide +kernel
set_option maxRecDepth 100000 in
theorem dL_law_3519 : decode code 3519 = .ok (.iaload, 1) := by decide +kernel
set_option maxRecDepth 100000 in
theorem dL_law_3520 : decode code 3520 = .ok (.aload_n 0, 1) := by decide +kernel
set_option maxRecDepth 100000 in
theorem dL_law_3521 : decode code 3521 = .ok (.iload 4, 2) := by decide +kernel
set_option maxRecDepth 100000 in
theorem dL_law_3523 : decode code 3523 = .ok (.iconst 3, 1) := by decide +kernel
set_option maxRecDepth 100000 in
theorem dL_law_3524 : decode code 3524 = .ok (.iadd, 1) := by decide +kernel
set_option maxRecDepth 100000 in
theorem dL_law_3525 : decode code 3525 = .ok (.iaload, 1) := by decide +kernel
set_option maxRecDepth 100000 in
theorem dL_law_3526 : decode code 3526 = .ok (.aload_n 0, 1) := by decide +kernel
set_option maxRecDepth 100000 in
theorem dL_law_3527 : decode code 3527 = .ok (.iload 4, 2) := by decide +kernel
set_option maxRecDepth 100000 in
theorem dL_law_3529 : decode code 3529 = .ok (.iconst 4, 1) := by decide +kernel
set_option maxRecDepth 100000 in
theorem dL_law_3530 : decode code 3530 = .ok (.iadd, 1) := by decide +kernel
set_option maxRecDepth 100000 in
theorem dL_law_3531 : decode code 3531 = .ok (.iaload, 1) := by decide +kernel
set_option maxRecDepth 100000 in
theorem dL_law_3532 : decode code 3532 = .ok (.invokevirtual 344, 3) := by decide +kernel
set_option maxRecDepth 100000 in
theorem dL_law_3535 : decode code 3535 = .ok (.istore 6, 2) := by decide +kernel
set_option maxRecDepth 100000 in
theorem dL_law_3537 : decode code 3537 = .ok (.aload_n 2, 1) := by decide +kernel
set_option maxRecDepth 100000 in
theorem dL_law_3538 : decode code 3538 = .ok (.invokevirtual 197, 3) := by decide +kernel
set_option maxRecDepth 100000 in
theorem dL_law_3541 : decode code 3541 = .ok (.iload 5, 2) := by decide +kernel
set_option maxRecDepth 100000 in
theorem dL_law_3543 : decode code 3543 = .ok (.if_icmp .eq 5, 3) := by decide +kernel
set_option maxRecDepth 100000 in
theorem dL_law_3548 : decode code 3548 = .ok (.iload 5, 2) := by decide +kernel
set_option maxRecDepth 100000 in
theorem dL_law_3550 : decode code 3550 = .ok (.ifCond .ne 15, 3) := by decide +kernel
set_option maxRecDepth 100000 in
theorem dL_law_3565 : decode code 3565 = .ok (.goto 534, 3) := by decide +kernel
set_option maxRecDepth 100000 in
theorem dL_law_3568 : decode code 3568 = .ok (.aload_n 1, 1) := by decide +kernel
set_option maxRecDepth 100000 in
theorem dL_law_3569 : decode code 3569 = .ok (.aload_n 0, 1) := by decide +kernel
set_option maxRecDepth 100000 in
theorem dL_law_3570 : decode code 3570 = .ok (.iload 4, 2) := by decide +kernel
set_option maxRecDepth 100000 in
theorem dL_law_3572 : decode code 3572 = .ok (.iconst 1, 1) := by decide +kernel
set_option maxRecDepth 100000 in
theorem dL_law_3573 : decode code 3573 = .ok (.iadd, 1) := by decide +kernel
set_option maxRecDepth 100000 in
theorem dL_law_3574 : decode code 3574 = .ok (.iaload, 1) := by decide +kernel
set_option maxRecDepth 100000 in
theorem dL_law_3575 : decode code 3575 = .ok (.aload_n 0, 1) := by decide +kernel
set_option maxRecDepth 100000 in
theorem dL_law_3576 : decode code 3576 = .ok (.iload 4, 2) := by decide +kernel
set_option maxRecDepth 100000 in
theorem dL_law_3578 : decode code 3578 = .ok (.iconst 2, 1) := by decide +kernel
set_option maxRecDepth 100000 in
theorem dL_law_3579 : decode code 3579 = .ok (.iadd, 1) := by decide +kernel
set_option maxRecDepth 100000 in
theorem dL_law_3580 : decode code 3580 = .ok (.iaload, 1) := by decide +kernel
set_option maxRecDepth 100000 in
theorem dL_law_3581 : decode code 3581 = .ok (.aload_n 3, 1) := by decide +kernel
set_option maxRecDepth 100000 in
theorem dL_law_3582 : decode code 3582 = .ok (.invokestatic 345, 3) := by decide +kernel
set_option maxRecDepth 100000 in
theorem dL_law_3585 : decode code 3585 = .ok (.istore 5, 2) := by decide +kernel
set_option maxRecDepth 100000 in
theorem dL_law_3587 : decode code 3587 = .ok (.aload_n 2, 1) := by decide +kernel
set_option maxRecDepth 100000 in
theorem dL_law_3588 : decode code 3588 = .ok (.aload_n 0, 1) := by decide +kernel
set_option maxRecDepth 100000 in
theorem dL_law_3589 : decode code 3589 = .ok (.iload 4, 2) := by decide +kernel
set_option maxRecDepth 100000 in
theorem dL_law_3591 : decode code 3591 = .ok (.iconst 1, 1) := by decide +kernel
set_option maxRecDepth 100000 in
theorem dL_law_3592 : decode code 3592 = .ok (.iadd, 1) := by decide +kernel
set_option maxRecDepth 100000 in
theorem dL_law_3593 : decode code 3593 = .ok (.iaload, 1) := by decide +kernel
set_option maxRecDepth 100000 in
theorem dL_law_3594 : decode code 3594 = .ok (.aload_n 0, 1) := by decide +kernel
set_option maxRecDepth 100000 in
theorem dL_law_3595 : decode code 3595 = .ok (.iload 4, 2) := by decide +kernel
set_option maxRecDepth 100000 in
theorem dL_law_3597 : decode code 3597 = .ok (.iconst 2, 1) := by decide +kernel
set_option maxRecDepth 100000 in
theorem dL_law_3598 : decode code 3598 = .ok (.iadd, 1) := by decide +kernel
set_option maxRecDepth 100000 in
theorem dL_law_3599 : decode code 3599 = .ok (.iaload, 1) := by decide +kernel
set_option maxRecDepth 100000 in
theorem dL_law_3600 : decode code 3600 = .ok (.invokevirtual 347, 3) := by decide +kernel
set_option maxRecDepth 100000 in
theorem dL_law_3603 : decode code 3603 = .ok (.istore 6, 2) := by decide +kernel
set_option maxRecDepth 100000 in
theorem dL_law_3605 : decode code 3605 = .ok (.aload_n 2, 1) := by decide +kernel
set_option maxRecDepth 100000 in
theorem dL_law_3606 : decode code 3606 = .ok (.invokevirtual 197, 3) := by decide +kernel
set_option maxRecDepth 100000 in
theorem dL_law_3609 : decode code 3609 = .ok (.iload 5, 2) := by decide +kernel
set_option maxRecDepth 100000 in
theorem dL_law_3611 : decode code 3611 = .ok (.if_icmp .eq 5, 3) := by decide +kernel
set_option maxRecDepth 100000 in
theorem dL_law_3616 : decode code 3616 = .ok (.iload 5, 2) := by decide +kernel
set_option maxRecDepth 100000 in
theorem dL_law_3618 : decode code 3618 = .ok (.ifCond .ne 15, 3) := by decide +kernel
set_option maxRecDepth 100000 in
theorem dL_law_3633 : decode code 3633 = .ok (.goto 466, 3) := by decide +kernel
set_option maxRecDepth 100000 in
theorem dL_law_3636 : decode code 3636 = .ok (.aload_n 1, 1) := by decide +kernel
set_option maxRecDepth 100000 in
theorem dL_law_3637 : decode code 3637 = .ok (.aload_n 0, 1) := by decide +kernel
set_option maxRecDepth 100000 in
theorem dL_law_3638 : decode code 3638 = .ok (.iload 4, 2) := by decide +kernel
set_option maxRecDepth 100000 in
theorem dL_law_3640 : decode code 3640 = .ok (.iconst 1, 1) := by decide +kernel
set_option maxRecDepth 100000 in
theorem dL_law_3641 : decode code 3641 = .ok (.iadd, 1) := by decide +kernel
set_option maxRecDepth 100000 in
theorem dL_law_3642 : decode code 3642 = .ok (.iaload, 1) := by decide +kernel
set_option maxRecDepth 100000 in
theorem dL_law_3643 : decode code 3643 = .ok (.aload_n 0, 1) := by decide +kernel
set_option maxRecDepth 100000 in
theorem dL_law_3644 : decode code 3644 = .ok (.iload 4, 2) := by decide +kernel
set_option maxRecDepth 100000 in
theorem dL_law_3646 : decode code 3646 = .ok (.iconst 2, 1) := by decide +kernel
set_option maxRecDepth 100000 in
theorem dL_law_3647 : decode code 3647 = .ok (.iadd, 1) := by decide +kernel
set_option maxRecDepth 100000 in
theorem dL_law_3648 : decode code 3648 = .ok (.iaload, 1) := by decide +kernel
set_option maxRecDepth 100000 in
theorem dL_law_3649 : decode code 3649 = .ok (.aload_n 0, 1) := by decide +kernel
set_option maxRecDepth 100000 in
theorem dL_law_3650 : decode code 3650 = .ok (.iload 4, 2) := by decide +kernel
set_option maxRecDepth 100000 in
theorem dL_law_3652 : decode code 3652 = .ok (.iconst 3, 1) := by decide +kernel
set_option maxRecDepth 100000 in
theorem dL_law_3653 : decode code 3653 = .ok (.iadd, 1) := by decide +kernel
set_option maxRecDepth 100000 in
theorem dL_law_3654 : decode code 3654 = .ok (.iaload, 1) := by decide +kernel
set_option maxRecDepth 100000 in
theorem dL_law_3655 : decode code 3655 = .ok (.aload_n 3, 1) := by decide +kernel
set_option maxRecDepth 100000 in
theorem dL_law_3656 : decode code 3656 = .ok (.invokestatic 348, 3) := by decide +kernel
set_option maxRecDepth 100000 in
theorem dL_law_3659 : decode code 3659 = .ok (.istore 5, 2) := by decide +kernel
set_option maxRecDepth 100000 in
theorem dL_law_3661 : decode code 3661 = .ok (.aload_n 2, 1) := by decide +kernel
set_option maxRecDepth 100000 in
theorem dL_law_3662 : decode code 3662 = .ok (.aload_n 0, 1) := by decide +kernel
set_option maxRecDepth 100000 in
theorem dL_law_3663 : decode code 3663 = .ok (.iload 4, 2) := by decide +kernel
set_option maxRecDepth 100000 in
theorem dL_law_3665 : decode code 3665 = .ok (.iconst 1, 1) := by decide +kernel
set_option maxRecDepth 100000 in
theorem dL_law_3666 : decode code 3666 = .ok (.iadd, 1) := by decide +kernel
set_option maxRecDepth 100000 in
theorem dL_law_3667 : decode code 3667 = .ok (.iaload, 1) := by decide +kernel
set_option maxRecDepth 100000 in
theorem dL_law_3668 : decode code 3668 = .ok (.aload_n 0, 1) := by decide +kernel
set_option maxRecDepth 100000 in
theorem dL_law_3669 : decode code 3669 = .ok (.iload 4, 2) := by decide +kernel
set_option maxRecDepth 100000 in
theorem dL_law_3671 : decode code 3671 = .ok (.iconst 2, 1) := by decide +kernel
set_option maxRecDepth 100000 in
theorem dL_law_3672 : decode code 3672 = .ok (.iadd, 1) := by decide +kernel
set_option maxRecDepth 100000 in
theorem dL_law_3673 : decode code 3673 = .ok (.iaload, 1) := by decide +kernel
set_option maxRecDepth 100000 in
theorem dL_law_3674 : decode code 3674 = .ok (.aload_n 0, 1) := by decide +kernel
set_option maxRecDepth 100000 in
theorem dL_law_3675 : decode code 3675 = .ok (.iload 4, 2) := by decide +kernel
set_option maxRecDepth 100000 in
theorem dL_law_3677 : decode code 3677 = .ok (.iconst 3, 1) := by decide +kernel
set_option maxRecDepth 100000 in
theorem dL_law_3678 : decode code 3678 = .ok (.iadd, 1) := by decide +kernel
set_option maxRecDepth 100000 in
theorem dL_law_3679 : decode code 3679 = .ok (.iaload, 1) := by decide +kernel
set_option maxRecDepth 100000 in
theorem dL_law_3680 : decode code 3680 = .ok (.invokevirtual 350, 3) := by decide +kernel
set_option maxRecDepth 100000 in
theorem dL_law_3683 : decode code 3683 = .ok (.istore 6, 2) := by decide +kernel
set_option maxRecDepth 100000 in
theorem dL_law_3685 : decode code 3685 = .ok (.aload_n 2, 1) := by decide +kernel
set_option maxRecDepth 100000 in
theorem dL_law_3686 : decode code 3686 = .ok (.invokevirtual 197, 3) := by decide +kernel
set_option maxRecDepth 100000 in
theorem dL_law_3689 : decode code 3689 = .ok (.iload 5, 2) := by decide +kernel
set_option maxRecDepth 100000 in
theorem dL_law_3691 : decode code 3691 = .ok (.if_icmp .eq 5, 3) := by decide +kernel
set_option maxRecDepth 100000 in
theorem dL_law_3696 : decode code 3696 = .ok (.iload 5, 2) := by decide +kernel
set_option maxRecDepth 100000 in
theorem dL_law_3698 : decode code 3698 = .ok (.ifCond .ne 22, 3) := by decide +kernel
set_option maxRecDepth 100000 in
theorem dL_law_3720 : decode code 3720 = .ok (.goto 379, 3) := by decide +kernel
set_option maxRecDepth 100000 in
theorem dL_law_3723 : decode code 3723 = .ok (.aload_n 1, 1) := by decide +kernel
set_option maxRecDepth 100000 in
theorem dL_law_3724 : decode code 3724 = .ok (.aload_n 0, 1) := by decide +kernel
set_option maxRecDepth 100000 in
theorem dL_law_3725 : decode code 3725 = .ok (.iload 4, 2) := by decide +kernel
set_option maxRecDepth 100000 in
theorem dL_law_3727 : decode code 3727 = .ok (.iconst 1, 1) := by decide +kernel
set_option maxRecDepth 100000 in
theorem dL_law_3728 : decode code 3728 = .ok (.iadd, 1) := by decide +kernel
set_option maxRecDepth 100000 in
theorem dL_law_3729 : decode code 3729 = .ok (.iaload, 1) := by decide +kernel
set_option maxRecDepth 100000 in
theorem dL_law_3730 : decode code 3730 = .ok (.aload_n 3, 1) := by decide +kernel
set_option maxRecDepth 100000 in
theorem dL_law_3731 : decode code 3731 = .ok (.invokestatic 351, 3) := by decide +kernel
set_option maxRecDepth 100000 in
theorem dL_law_3734 : decode code 3734 = .ok (.istore 5, 2) := by decide +kernel
set_option maxRecDepth 100000 in
theorem dL_law_3736 : decode code 3736 = .ok (.aload_n 2, 1) := by decide +kernel
set_option maxRecDepth 100000 in
theorem dL_law_3737 : decode code 3737 = .ok (.aload_n 0, 1) := by decide +kernel
set_option maxRecDepth 100000 in
theorem dL_law_3738 : decode code 3738 = .ok (.iload 4, 2) := by decide +kernel
set_option maxRecDepth 100000 in
theorem dL_law_3740 : decode code 3740 = .ok (.iconst 1, 1) := by decide +kernel
set_option maxRecDepth 100000 in
theorem dL_law_3741 : decode code 3741 = .ok (.iadd, 1) := by decide +kernel
set_option maxRecDepth 100000 in
theorem dL_law_3742 : decode code 3742 = .ok (.iaload, 1) := by decide +kernel
set_option maxRecDepth 100000 in
theorem dL_law_3743 : decode code 3743 = .ok (.invokevirtual 353, 3) := by decide +kernel
set_option maxRecDepth 100000 in
theorem dL_law_3746 : decode code 3746 = .ok (.istore 6, 2) := by decide +kernel
set_option maxRecDepth 100000 in
theorem dL_law_3748 : decode code 3748 = .ok (.aload_n 2, 1) := by decide +kernel
set_option maxRecDepth 100000 in
theorem dL_law_3749 : decode code 3749 = .ok (.invokevirtual 197, 3) := by decide +kernel
set_option maxRecDepth 100000 in
theorem dL_law_3752 : decode code 3752 = .ok (.iload 5, 2) := by decide +kernel
set_option maxRecDepth 100000 in
theorem dL_law_3754 : decode code 3754 = .ok (.if_icmp .eq 5, 3) := by decide +kernel
set_option maxRecDepth 100000 in
theorem dL_law_3759 : decode code 3759 = .ok (.iload 5, 2) := by decide +kernel
set_option maxRecDepth 100000 in
theorem dL_law_3761 : decode code 3761 = .ok (.ifCond .ne 15, 3) := by decide +kernel
set_option maxRecDepth 100000 in
theorem dL_law_3776 : decode code 3776 = .ok (.goto 323, 3) := by decide +kernel
set_option maxRecDepth 100000 in
theorem dL_law_3779 : decode code 3779 = .ok (.aload_n 1, 1) := by decide +kernel
set_option maxRecDepth 100000 in
theorem dL_law_3780 : decode code 3780 = .ok (.aload_n 0, 1) := by decide +kernel
set_option maxRecDepth 100000 in
theorem dL_law_3781 : decode code 3781 = .ok (.iload 4, 2) := by decide +kernel
set_option maxRecDepth 100000 in
theorem dL_law_3783 : decode code 3783 = .ok (.iconst 1, 1) := by decide +kernel
set_option maxRecDepth 100000 in
theorem dL_law_3784 : decode code 3784 = .ok (.iadd, 1) := by decide +kernel
set_option maxRecDepth 100000 in
theorem dL_law_3785 : decode code 3785 = .ok (.iaload, 1) := by decide +kernel
set_option maxRecDepth 100000 in
theorem dL_law_3786 : decode code 3786 = .ok (.aload_n 0, 1) := by decide +kernel
set_option maxRecDepth 100000 in
theorem dL_law_3787 : decode code 3787 = .ok (.iload 4, 2) := by decide +kernel
set_option maxRecDepth 100000 in
theorem dL_law_3789 : decode code 3789 = .ok (.iconst 2, 1) := by decide +kernel
set_option maxRecDepth 100000 in
theorem dL_law_3790 : decode code 3790 = .ok (.iadd, 1) := by decide +kernel
set_option maxRecDepth 100000 in
theorem dL_law_3791 : decode code 3791 = .ok (.iaload, 1) := by decide +kernel
set_option maxRecDepth 100000 in
theorem dL_law_3792 : decode code 3792 = .ok (.aload_n 3, 1) := by decide +kernel
set_option maxRecDepth 100000 in
theorem dL_law_3793 : decode code 3793 = .ok (.invokestatic 354, 3) := by decide +kernel
set_option maxRecDepth 100000 in
theorem dL_law_3796 : decode code 3796 = .ok (.istore 5, 2) := by decide +kernel
set_option maxRecDepth 100000 in
theorem dL_law_3798 : decode code 3798 = .ok (.aload_n 2, 1) := by decide +kernel
set_option maxRecDepth 100000 in
theorem dL_law_3799 : decode code 3799 = .ok (.aload_n 0, 1) := by decide +kernel
set_option maxRecDepth 100000 in
theorem dL_law_3800 : decode code 3800 = .ok (.iload 4, 2) := by decide +kernel
set_option maxRecDepth 100000 in
theorem dL_law_3802 : decode code 3802 = .ok (.iconst 1, 1) := by decide +kernel
set_option maxRecDepth 100000 in
theorem dL_law_3803 : decode code 3803 = .ok (.iadd, 1) := by decide +kernel
set_option maxRecDepth 100000 in
theorem dL_law_3804 : decode code 3804 = .ok (.iaload, 1) := by decide +kernel
set_option maxRecDepth 100000 in
theorem dL_law_3805 : decode code 3805 = .ok (.aload_n 0, 1) := by decide +kernel
set_option maxRecDepth 100000 in
theorem dL_law_3806 : decode code 3806 = .ok (.iload 4, 2) := by decide +kernel
set_option maxRecDepth 100000 in
theorem dL_law_3808 : decode code 3808 = .ok (.iconst 2, 1) := by decide +kernel
set_option maxRecDepth 100000 in
theorem dL_law_3809 : decode code 3809 = .ok (.iadd, 1) := by decide +kernel
set_option maxRecDepth 100000 in
theorem dL_law_3810 : decode code 3810 = .ok (.iaload, 1) := by decide +kernel
set_option maxRecDepth 100000 in
theorem dL_law_3811 : decode code 3811 = .ok (.invokevirtual 356, 3) := by decide +kernel
set_option maxRecDepth 100000 in
theorem dL_law_3814 : decode code 3814 = .ok (.istore 6, 2) := by decide +kernel
set_option maxRecDepth 100000 in
theorem dL_law_3816 : decode code 3816 = .ok (.aload_n 2, 1) := by decide +kernel
set_option maxRecDepth 100000 in
theorem dL_law_3817 : decode code 3817 = .ok (.invokevirtual 197, 3) := by decide +kernel
set_option maxRecDepth 100000 in
theorem dL_law_3820 : decode code 3820 = .ok (.iload 5, 2) := by decide +kernel
set_option maxRecDepth 100000 in
theorem dL_law_3822 : decode code 3822 = .ok (.if_icmp .eq 5, 3) := by decide +kernel
set_option maxRecDepth 100000 in
theorem dL_law_3827 : decode code 3827 = .ok (.iload 5, 2) := by decide +kernel
set_option maxRecDepth 100000 in
theorem dL_law_3829 : decode code 3829 = .ok (.ifCond .ne 15, 3) := by decide +kernel
set_option maxRecDepth 100000 in
theorem dL_law_3844 : decode code 3844 = .ok (.goto 255, 3) := by decide +kernel
set_option maxRecDepth 100000 in
theorem dL_law_3847 : decode code 3847 = .ok (.aload_n 1, 1) := by decide +kernel
set_option maxRecDepth 100000 in
theorem dL_law_3848 : decode code 3848 = .ok (.aload_n 0, 1) := by decide +kernel
set_option maxRecDepth 100000 in
theorem dL_law_3849 : decode code 3849 = .ok (.iload 4, 2) := by decide +kernel
set_option maxRecDepth 100000 in
theorem dL_law_3851 : decode code 3851 = .ok (.iconst 1, 1) := by decide +kernel
set_option maxRecDepth 100000 in
theorem dL_law_3852 : decode code 3852 = .ok (.iadd, 1) := by decide +kernel
set_option maxRecDepth 100000 in
theorem dL_law_3853 : decode code 3853 = .ok (.iaload, 1) := by decide +kernel
set_option maxRecDepth 100000 in
theorem dL_law_3854 : decode code 3854 = .ok (.aload_n 0, 1) := by decide +kernel
set_option maxRecDepth 100000 in
theorem dL_law_3855 : decode code 3855 = .ok (.iload 4, 2) := by decide +kernel
set_option maxRecDepth 100000 in
theorem dL_law_3857 : decode code 3857 = .ok (.iconst 2, 1) := by decide +kernel
set_option maxRecDepth 100000 in
theorem dL_law_3858 : decode code 3858 = .ok (.iadd, 1) := by decide +kernel
set_option maxRecDepth 100000 in
theorem dL_law_3859 : decode code 3859 = .ok (.iaload, 1) := by decide +kernel
set_option maxRecDepth 100000 in
theorem dL_law_3860 : decode code 3860 = .ok (.aload_n 0, 1) := by decide +kernel
set_option maxRecDepth 100000 in
theorem dL_law_3861 : decode code 3861 = .ok (.iload 4, 2) := by decide +kernel
set_option maxRecDepth 100000 in
theorem dL_law_3863 : decode code 3863 = .ok (.iconst 3, 1) := by decide +kernel
set_option maxRecDepth 100000 in
theorem dL_law_3864 : decode code 3864 = .ok (.iadd, 1) := by decide +kernel
set_option maxRecDepth 100000 in
theorem dL_law_3865 : decode code 3865 = .ok (.iaload, 1) := by decide +kernel
set_option maxRecDepth 100000 in
theorem dL_law_3866 : decode code 3866 = .ok (.ifCond .eq 7, 3) := by decide +kernel
set_option maxRecDepth 100000 in
theorem dL_law_3869 : decode code 3869 = .ok (.iconst 1, 1) := by decide +kernel
set_option maxRecDepth 100000 in
theorem dL_law_3870 : decode code 3870 = .ok (.goto 4, 3) := by decide +kernel
set_option maxRecDepth 100000 in
theorem dL_law_3873 : decode code 3873 = .ok (.iconst 0, 1) := by decide +kernel
set_option maxRecDepth 100000 in
theorem dL_law_3874 : decode code 3874 = .ok (.aload_n 3, 1) := by decide +kernel
set_option maxRecDepth 100000 in
theorem dL_law_3875 : decode code 3875 = .ok (.invokestatic 357, 3) := by decide +kernel
set_option maxRecDepth 100000 in
theorem dL_law_3878 : decode code 3878 = .ok (.istore 5, 2) := by decide +kernel
set_option maxRecDepth 100000 in
theorem dL_law_3880 : decode code 3880 = .ok (.aload_n 2, 1) := by decide +kernel
set_option maxRecDepth 100000 in
theorem dL_law_3881 : decode code 3881 = .ok (.aload_n 0, 1) := by decide +kernel
set_option maxRecDepth 100000 in
theorem dL_law_3882 : decode code 3882 = .ok (.iload 4, 2) := by decide +kernel
set_option maxRecDepth 100000 in
theorem dL_law_3884 : decode code 3884 = .ok (.iconst 1, 1) := by decide +kernel
set_option maxRecDepth 100000 in
theorem dL_law_3885 : decode code 3885 = .ok (.iadd, 1) := by decide +kernel
set_option maxRecDepth 100000 in
theorem dL_law_3886 : decode code 3886 = .ok (.iaload, 1) := by decide +kernel
set_option maxRecDepth 100000 in
theorem dL_law_3887 : decode code 3887 = .ok (.aload_n 0, 1) := by decide +kernel
set_option maxRecDepth 100000 in
theorem dL_law_3888 : decode code 3888 = .ok (.iload 4, 2) := by decide +kernel
set_option maxRecDepth 100000 in
theorem dL_law_3890 : decode code 3890 = .ok (.iconst 2, 1) := by decide +kernel
set_option maxRecDepth 100000 in
theorem dL_law_3891 : decode code 3891 = .ok (.iadd, 1) := by decide +kernel
set_option maxRecDepth 100000 in
theorem dL_law_3892 : decode code 3892 = .ok (.iaload, 1) := by decide +kernel
set_option maxRecDepth 100000 in
theorem dL_law_3893 : decode code 3893 = .ok (.aload_n 0, 1) := by decide +kernel
set_option maxRecDepth 100000 in
theorem dL_law_3894 : decode code 3894 = .ok (.iload 4, 2) := by decide +kernel
set_option maxRecDepth 100000 in
theorem dL_law_3896 : decode code 3896 = .ok (.iconst 3, 1) := by decide +kernel
set_option maxRecDepth 100000 in
theorem dL_law_3897 : decode code 3897 = .ok (.iadd, 1) := by decide +kernel
set_option maxRecDepth 100000 in
theorem dL_law_3898 : decode code 3898 = .ok (.iaload, 1) := by decide +kernel
set_option maxRecDepth 100000 in
theorem dL_law_3899 : decode code 3899 = .ok (.ifCond .eq 7, 3) := by decide +kernel
set_option maxRecDepth 100000 in
theorem dL_law_3902 : decode code 3902 = .ok (.iconst 1, 1) := by decide +kernel
set_option maxRecDepth 100000 in
theorem dL_law_3903 : decode code 3903 = .ok (.goto 4, 3) := by decide +kernel
set_option maxRecDepth 100000 in
theorem dL_law_3906 : decode code 3906 = .ok (.iconst 0, 1) := by decide +kernel
set_option maxRecDepth 100000 in
theorem dL_law_3907 : decode code 3907 = .ok (.invokevirtual 359, 3) := by decide +kernel
set_option maxRecDepth 100000 in
theorem dL_law_3910 : decode code 3910 = .ok (.istore 6, 2) := by decide +kernel
set_option maxRecDepth 100000 in
theorem dL_law_3912 : decode code 3912 = .ok (.aload_n 2, 1) := by decide +kernel
set_option maxRecDepth 100000 in
theorem dL_law_3913 : decode code 3913 = .ok (.invokevirtual 197, 3) := by decide +kernel
set_option maxRecDepth 100000 in
theorem dL_law_3916 : decode code 3916 = .ok (.iload 5, 2) := by decide +kernel
set_option maxRecDepth 100000 in
theorem dL_law_3918 : decode code 3918 = .ok (.if_icmp .eq 5, 3) := by decide +kernel
set_option maxRecDepth 100000 in
theorem dL_law_3923 : decode code 3923 = .ok (.iload 5, 2) := by decide +kernel
set_option maxRecDepth 100000 in
theorem dL_law_3925 : decode code 3925 = .ok (.ifCond .ne 22, 3) := by decide +kernel
set_option maxRecDepth 100000 in
theorem dL_law_3947 : decode code 3947 = .ok (.goto 152, 3) := by decide +kernel
set_option maxRecDepth 100000 in
theorem dL_law_3950 : decode code 3950 = .ok (.aload_n 1, 1) := by decide +kernel
set_option maxRecDepth 100000 in
theorem dL_law_3951 : decode code 3951 = .ok (.aload_n 0, 1) := by decide +kernel
set_option maxRecDepth 100000 in
theorem dL_law_3952 : decode code 3952 = .ok (.iload 4, 2) := by decide +kernel
set_option maxRecDepth 100000 in
theorem dL_law_3954 : decode code 3954 = .ok (.iconst 1, 1) := by decide +kernel
set_option maxRecDepth 100000 in
theorem dL_law_3955 : decode code 3955 = .ok (.iadd, 1) := by decide +kernel
set_option maxRecDepth 100000 in
theorem dL_law_3956 : decode code 3956 = .ok (.iaload, 1) := by decide +kernel
set_option maxRecDepth 100000 in
theorem dL_law_3957 : decode code 3957 = .ok (.aload_n 0, 1) := by decide +kernel
set_option maxRecDepth 100000 in
theorem dL_law_3958 : decode code 3958 = .ok (.iload 4, 2) := by decide +kernel
set_option maxRecDepth 100000 in
theorem dL_law_3960 : decode code 3960 = .ok (.iconst 2, 1) := by decide +kernel
set_option maxRecDepth 100000 in
theorem dL_law_3961 : decode code 3961 = .ok (.iadd, 1) := by decide +kernel
set_option maxRecDepth 100000 in
theorem dL_law_3962 : decode code 3962 = .ok (.iaload, 1) := by decide +kernel
set_option maxRecDepth 100000 in
theorem dL_law_3963 : decode code 3963 = .ok (.aload_n 3, 1) := by decide +kernel
set_option maxRecDepth 100000 in
theorem dL_law_3964 : decode code 3964 = .ok (.invokestatic 360, 3) := by decide +kernel
set_option maxRecDepth 100000 in
theorem dL_law_3967 : decode code 3967 = .ok (.istore 5, 2) := by decide +kernel
set_option maxRecDepth 100000 in
theorem dL_law_3969 : decode code 3969 = .ok (.aload_n 2, 1) := by decide +kernel
set_option maxRecDepth 100000 in
theorem dL_law_3970 : decode code 3970 = .ok (.aload_n 0, 1) := by decide +kernel
set_option maxRecDepth 100000 in
theorem dL_law_3971 : decode code 3971 = .ok (.iload 4, 2) := by decide +kernel
set_option maxRecDepth 100000 in
theorem dL_law_3973 : decode code 3973 = .ok (.iconst 1, 1) := by decide +kernel
set_option maxRecDepth 100000 in
theorem dL_law_3974 : decode code 3974 = .ok (.iadd, 1) := by decide +kernel
set_option maxRecDepth 100000 in
theorem dL_law_3975 : decode code 3975 = .ok (.iaload, 1) := by decide +kernel
set_option maxRecDepth 100000 in
theorem dL_law_3976 : decode code 3976 = .ok (.aload_n 0, 1) := by decide +kernel
set_option maxRecDepth 100000 in
theorem dL_law_3977 : decode code 3977 = .ok (.iload 4, 2) := by decide +kernel
set_option maxRecDepth 100000 in
theorem dL_law_3979 : decode code 3979 = .ok (.iconst 2, 1) := by decide +kernel
set_option maxRecDepth 100000 in
theorem dL_law_3980 : decode code 3980 = .ok (.iadd, 1) := by decide +kernel
set_option maxRecDepth 100000 in
theorem dL_law_3981 : decode code 3981 = .ok (.iaload, 1) := by decide +kernel
set_option maxRecDepth 100000 in
theorem dL_law_3982 : decode code 3982 = .ok (.invokevirtual 362, 3) := by decide +kernel
set_option maxRecDepth 100000 in
theorem dL_law_3985 : decode code 3985 = .ok (.istore 6, 2) := by decide +kernel
set_option maxRecDepth 100000 in
theorem dL_law_3987 : decode code 3987 = .ok (.aload_n 2, 1) := by decide +kernel
set_option maxRecDepth 100000 in
theorem dL_law_3988 : decode code 3988 = .ok (.invokevirtual 197, 3) := by decide +kernel
set_option maxRecDepth 100000 in
theorem dL_law_3991 : decode code 3991 = .ok (.iload 5, 2) := by decide +kernel
set_option maxRecDepth 100000 in
theorem dL_law_3993 : decode code 3993 = .ok (.if_icmp .eq 5, 3) := by decide +kernel
set_option maxRecDepth 100000 in
theorem dL_law_3998 : decode code 3998 = .ok (.iload 5, 2) := by decide +kernel
set_option maxRecDepth 100000 in
theorem dL_law_4000 : decode code 4000 = .ok (.ifCond .ne 15, 3) := by decide +kernel
set_option maxRecDepth 100000 in
theorem dL_law_4015 : decode code 4015 = .ok (.goto 84, 3) := by decide +kernel
set_option maxRecDepth 100000 in
theorem dL_law_4018 : decode code 4018 = .ok (.aload_n 1, 1) := by decide +kernel
set_option maxRecDepth 100000 in
theorem dL_law_4019 : decode code 4019 = .ok (.aload_n 0, 1) := by decide +kernel
set_option maxRecDepth 100000 in
theorem dL_law_4020 : decode code 4020 = .ok (.iload 4, 2) := by decide +kernel
set_option maxRecDepth 100000 in
theorem dL_law_4022 : decode code 4022 = .ok (.iconst 1, 1) := by decide +kernel
set_option maxRecDepth 100000 in
theorem dL_law_4023 : decode code 4023 = .ok (.iadd, 1) := by decide +kernel
set_option maxRecDepth 100000 in
theorem dL_law_4024 : decode code 4024 = .ok (.iaload, 1) := by decide +kernel
set_option maxRecDepth 100000 in
theorem dL_law_4025 : decode code 4025 = .ok (.aload_n 0, 1) := by decide +kernel
set_option maxRecDepth 100000 in
theorem dL_law_4026 : decode code 4026 = .ok (.iload 4, 2) := by decide +kernel
set_option maxRecDepth 100000 in
theorem dL_law_4028 : decode code 4028 = .ok (.iconst 2, 1) := by decide +kernel
set_option maxRecDepth 100000 in
theorem dL_law_4029 : decode code 4029 = .ok (.iadd, 1) := by decide +kernel
set_option maxRecDepth 100000 in
theorem dL_law_4030 : decode code 4030 = .ok (.iaload, 1) := by decide +kernel
set_option maxRecDepth 100000 in
theorem dL_law_4031 : decode code 4031 = .ok (.aload_n 3, 1) := by decide +kernel
set_option maxRecDepth 100000 in
theorem dL_law_4032 : decode code 4032 = .ok (.invokestatic 363, 3) := by decide +kernel
set_option maxRecDepth 100000 in
theorem dL_law_4035 : decode code 4035 = .ok (.istore 5, 2) := by decide +kernel
set_option maxRecDepth 100000 in
theorem dL_law_4037 : decode code 4037 = .ok (.aload_n 2, 1) := by decide +kernel
set_option maxRecDepth 100000 in
theorem dL_law_4038 : decode code 4038 = .ok (.aload_n 0, 1) := by decide +kernel
set_option maxRecDepth 100000 in
theorem dL_law_4039 : decode code 4039 = .ok (.iload 4, 2) := by decide +kernel
set_option maxRecDepth 100000 in
theorem dL_law_4041 : decode code 4041 = .ok (.iconst 1, 1) := by decide +kernel
set_option maxRecDepth 100000 in
theorem dL_law_4042 : decode code 4042 = .ok (.iadd, 1) := by decide +kernel
set_option maxRecDepth 100000 in
theorem dL_law_4043 : decode code 4043 = .ok (.iaload, 1) := by decide +kernel
set_option maxRecDepth 100000 in
theorem dL_law_4044 : decode code 4044 = .ok (.aload_n 0, 1) := by decide +kernel
set_option maxRecDepth 100000 in
theorem dL_law_4045 : decode code 4045 = .ok (.iload 4, 2) := by decide +kernel
set_option maxRecDepth 100000 in
theorem dL_law_4047 : decode code 4047 = .ok (.iconst 2, 1) := by decide +kernel
set_option maxRecDepth 100000 in
theorem dL_law_4048 : decode code 4048 = .ok (.iadd, 1) := by decide +kernel
set_option maxRecDepth 100000 in
theorem dL_law_4049 : decode code 4049 = .ok (.iaload, 1) := by decide +kernel
set_option maxRecDepth 100000 in
theorem dL_law_4050 : decode code 4050 = .ok (.invokevirtual 365, 3) := by decide +kernel
set_option maxRecDepth 100000 in
theorem dL_law_4053 : decode code 4053 = .ok (.istore 6, 2) := by decide +kernel
set_option maxRecDepth 100000 in
theorem dL_law_4055 : decode code 4055 = .ok (.aload_n 2, 1) := by decide +kernel
set_option maxRecDepth 100000 in
theorem dL_law_4056 : decode code 4056 = .ok (.invokevirtual 197, 3) := by decide +kernel
set_option maxRecDepth 100000 in
theorem dL_law_4059 : decode code 4059 = .ok (.iload 5, 2) := by decide +kernel
set_option maxRecDepth 100000 in
theorem dL_law_4061 : decode code 4061 = .ok (.if_icmp .eq 5, 3) := by decide +kernel
set_option maxRecDepth 100000 in
theorem dL_law_4066 : decode code 4066 = .ok (.iload 5, 2) := by decide +kernel
set_option maxRecDepth 100000 in
theorem dL_law_4068 : decode code 4068 = .ok (.ifCond .ne 15, 3) := by decide +kernel
set_option maxRecDepth 100000 in
theorem dL_law_4083 : decode code 4083 = .ok (.goto 16, 3) := by decide +kernel
set_option maxRecDepth 100000 in
theorem dL_law_4086 : decode code 4086 = .ok (.aload_n 1, 1) := by decide +kernel
set_option maxRecDepth 100000 in
theorem dL_law_4087 : decode code 4087 = .ok (.invokevirtual 366, 3) := by decide +kernel
set_option maxRecDepth 100000 in
theorem dL_law_4090 : decode code 4090 = .ok (.aload_n 2, 1) := by decide +kernel
set_option maxRecDepth 100000 in
theorem dL_law_4091 : decode code 4091 = .ok (.invokevirtual 369, 3) := by decide +kernel
set_option maxRecDepth 100000 in
theorem dL_law_4094 : decode code 4094 = .ok (.if_icmp .eq 5, 3) := by decide +kernel
set_option maxRecDepth 100000 in
theorem dL_law_4099 : decode code 4099 = .ok (.iinc 4 7, 3) := by decide +kernel
set_option maxRecDepth 100000 in
theorem dL_law_4102 : decode code 4102 = .ok (.goto (-4079), 3) := by decide +kernel
set_option maxRecDepth 100000 in
theorem dL_law_4105 : decode code 4105 = .ok (.iconst 1, 1) := by decide +kernel
set_option maxRecDepth 100000 in
theorem dL_law_4106 : decode code 4106 = .ok (.ireturn, 1) := by decide +kernel
