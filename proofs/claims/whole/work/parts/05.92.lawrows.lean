theorem kX11_sheet : OKV mX11_sheet 3 := ⟨⟨lw_in 90 (by decide +kernel) rfl, lw_in 496 (by decide +kernel) rfl, by decide +kernel, by decide +kernel, by decide⟩, lw_in 494 (by decide +kernel) rfl, lw_in 495 (by decide +kernel) rfl⟩
theorem lL_13 : Cond.methodLink R_law 13 mX11_sheet.1 ∈ lw_g := lw_in 493 (by decide +kernel) rfl
theorem kX12_sheet : OKV mX12_sheet 3 := ⟨⟨lw_in 102 (by decide +kernel) rfl, lw_in 1338 (by decide +kernel) rfl, by decide +kernel, by decide +kernel, by decide⟩, lw_in 1336 (by decide +kernel) rfl, lw_in 1337 (by decide +kernel) rfl⟩
theorem lL_17 : Cond.methodLink R_law 17 mX12_sheet.1 ∈ lw_g := lw_in 1335 (by decide +kernel) rfl
theorem kX11_set : OKV mX11_set 3 := ⟨⟨lw_in 90 (by decide +kernel) rfl, lw_in 518 (by decide +kernel) rfl, by decide +kernel, by decide +kernel, by decide⟩, lw_in 516 (by decide +kernel) rfl, lw_in 517 (by decide +kernel) rfl⟩
theorem lL_18 : Cond.methodLink R_law 18 mX11_set.1 ∈ lw_g := lw_in 515 (by decide +kernel) rfl
theorem kX12_set : OKV mX12_set 3 := ⟨⟨lw_in 102 (by decide +kernel) rfl, lw_in 1356 (by decide +kernel) rfl, by decide +kernel, by decide +kernel, by decide⟩, lw_in 1354 (by decide +kernel) rfl, lw_in 1355 (by decide +kernel) rfl⟩
theorem lL_21 : Cond.methodLink R_law 21 mX12_set.1 ∈ lw_g := lw_in 1353 (by decide +kernel) rfl
theorem kX11_copy : OKV mX11_copy 5 := ⟨⟨lw_in 90 (by decide +kernel) rfl, lw_in 534 (by decide +kernel) rfl, by decide +kernel, by decide +kernel, by decide⟩, lw_in 532 (by decide +kernel) rfl, lw_in 533 (by decide +kernel) rfl⟩
theorem lL_22 : Cond.methodLink R_law 22 mX11_copy.1 ∈ lw_g := lw_in 531 (by decide +kernel) rfl
theorem kX12_copy : OKV mX12_copy 5 := ⟨⟨lw_in 102 (by decide +kernel) rfl, lw_in 1360 (by decide +kernel) rfl, by decide +kernel, by decide +kernel, by decide⟩, lw_in 1358 (by decide +kernel) rfl, lw_in 1359 (by decide +kernel) rfl⟩
theorem lL_26 : Cond.methodLink R_law 26 mX12_copy.1 ∈ lw_g := lw_in 1357 (by decide +kernel) rfl
theorem kX11_drop : OKV mX11_drop 1 := ⟨⟨lw_in 90 (by decide +kernel) rfl, lw_in 549 (by decide +kernel) rfl, by decide +kernel, by decide +kernel, by decide⟩, lw_in 547 (by decide +kernel) rfl, lw_in 548 (by decide +kernel) rfl⟩
theorem lL_27 : Cond.methodLink R_law 27 mX11_drop.1 ∈ lw_g := lw_in 546 (by decide +kernel) rfl
theorem kX12_drop : OKV mX12_drop 1 := ⟨⟨lw_in 102 (by decide +kernel) rfl, lw_in 1364 (by decide +kernel) rfl, by decide +kernel, by decide +kernel, by decide⟩, lw_in 1362 (by decide +kernel) rfl, lw_in 1363 (by decide +kernel) rfl⟩
theorem lL_31 : Cond.methodLink R_law 31 mX12_drop.1 ∈ lw_g := lw_in 1361 (by decide +kernel) rfl
theorem kX11_feed : OKV mX11_feed 2 := ⟨⟨lw_in 90 (by decide +kernel) rfl, lw_in 557 (by decide +kernel) rfl, by decide +kernel, by decide +kernel, by decide⟩, lw_in 555 (by decide +kernel) rfl, lw_in 556 (by decide +kernel) rfl⟩
theorem lL_34 : Cond.methodLink R_law 34 mX11_feed.1 ∈ lw_g := lw_in 554 (by decide +kernel) rfl
theorem kX12_feed : OKV mX12_feed 2 := ⟨⟨lw_in 102 (by decide +kernel) rfl, lw_in 1368 (by decide +kernel) rfl, by decide +kernel, by decide +kernel, by decide⟩, lw_in 1366 (by decide +kernel) rfl, lw_in 1367 (by decide +kernel) rfl⟩
theorem lL_38 : Cond.methodLink R_law 38 mX12_feed.1 ∈ lw_g := lw_in 1365 (by decide +kernel) rfl
theorem kX11_read : OKV mX11_read 0 := ⟨⟨lw_in 90 (by decide +kernel) rfl, lw_in 566 (by decide +kernel) rfl, by decide +kernel, by decide +kernel, by decide⟩, lw_in 564 (by decide +kernel) rfl, lw_in 565 (by decide +kernel) rfl⟩
theorem lL_39 : Cond.methodLink R_law 39 mX11_read.1 ∈ lw_g := lw_in 563 (by decide +kernel) rfl
theorem kX12_read : OKV mX12_read 0 := ⟨⟨lw_in 102 (by decide +kernel) rfl, lw_in 1375 (by decide +kernel) rfl, by decide +kernel, by decide +kernel, by decide⟩, lw_in 1373 (by decide +kernel) rfl, lw_in 1374 (by decide +kernel) rfl⟩
theorem lL_43 : Cond.methodLink R_law 43 mX12_read.1 ∈ lw_g := lw_in 1372 (by decide +kernel) rfl
theorem kX11_fault : OKV mX11_fault 0 := ⟨⟨lw_in 90 (by decide +kernel) rfl, lw_in 781 (by decide +kernel) rfl, by decide +kernel, by decide +kernel, by decide⟩, lw_in 779 (by decide +kernel) rfl, lw_in 780 (by decide +kernel) rfl⟩
theorem lL_44 : Cond.methodLink R_law 44 mX11_fault.1 ∈ lw_g := lw_in 778 (by decide +kernel) rfl
theorem kX12_fault : OKV mX12_fault 0 := ⟨⟨lw_in 102 (by decide +kernel) rfl, lw_in 1429 (by decide +kernel) rfl, by decide +kernel, by decide +kernel, by decide⟩, lw_in 1427 (by decide +kernel) rfl, lw_in 1428 (by decide +kernel) rfl⟩
theorem lL_47 : Cond.methodLink R_law 47 mX12_fault.1 ∈ lw_g := lw_in 1426 (by decide +kernel) rfl
theorem kX11_line : OKV mX11_line 2 := ⟨⟨lw_in 90 (by decide +kernel) rfl, lw_in 785 (by decide +kernel) rfl, by decide +kernel, by decide +kernel, by decide⟩, lw_in 783 (by decide +kernel) rfl, lw_in 784 (by decide +kernel) rfl⟩
theorem lL_48 : Cond.methodLink R_law 48 mX11_line.1 ∈ lw_g := lw_in 782 (by decide +kernel) rfl
theorem kX12_line : OKV mX12_line 2 := ⟨⟨lw_in 102 (by decide +kernel) rfl, lw_in 1433 (by decide +kernel) rfl, by decide +kernel, by decide +kernel, by decide⟩, lw_in 1431 (by decide +kernel) rfl, lw_in 1432 (by decide +kernel) rfl⟩
theorem lL_52 : Cond.methodLink R_law 52 mX12_line.1 ∈ lw_g := lw_in 1430 (by decide +kernel) rfl
theorem kX11_ear : OKV mX11_ear 1 := ⟨⟨lw_in 90 (by decide +kernel) rfl, lw_in 801 (by decide +kernel) rfl, by decide +kernel, by decide +kernel, by decide⟩, lw_in 799 (by decide +kernel) rfl, lw_in 800 (by decide +kernel) rfl⟩
theorem lL_53 : Cond.methodLink R_law 53 mX11_ear.1 ∈ lw_g := lw_in 798 (by decide +kernel) rfl
theorem kX12_ear : OKV mX12_ear 1 := ⟨⟨lw_in 102 (by decide +kernel) rfl, lw_in 1476 (by decide +kernel) rfl, by decide +kernel, by decide +kernel, by decide⟩, lw_in 1474 (by decide +kernel) rfl, lw_in 1475 (by decide +kernel) rfl⟩
theorem lL_56 : Cond.methodLink R_law 56 mX12_ear.1 ∈ lw_g := lw_in 1473 (by decide +kernel) rfl
theorem kX11_alike : OKV mX11_alike 3 := ⟨⟨lw_in 90 (by decide +kernel) rfl, lw_in 805 (by decide +kernel) rfl, by decide +kernel, by decide +kernel, by decide⟩, lw_in 803 (by decide +kernel) rfl, lw_in 804 (by decide +kernel) rfl⟩
theorem lL_57 : Cond.methodLink R_law 57 mX11_alike.1 ∈ lw_g := lw_in 802 (by decide +kernel) rfl
theorem kX12_alike : OKV mX12_alike 3 := ⟨⟨lw_in 102 (by decide +kernel) rfl, lw_in 1487 (by decide +kernel) rfl, by decide +kernel, by decide +kernel, by decide⟩, lw_in 1485 (by decide +kernel) rfl, lw_in 1486 (by decide +kernel) rfl⟩
theorem lL_60 : Cond.methodLink R_law 60 mX12_alike.1 ∈ lw_g := lw_in 1484 (by decide +kernel) rfl
theorem kX11_today : OKV mX11_today 3 := ⟨⟨lw_in 90 (by decide +kernel) rfl, lw_in 839 (by decide +kernel) rfl, by decide +kernel, by decide +kernel, by decide⟩, lw_in 837 (by decide +kernel) rfl, lw_in 838 (by decide +kernel) rfl⟩
theorem lL_61 : Cond.methodLink R_law 61 mX11_today.1 ∈ lw_g := lw_in 836 (by decide +kernel) rfl
theorem kX12_today : OKV mX12_today 3 := ⟨⟨lw_in 102 (by decide +kernel) rfl, lw_in 1457 (by decide +kernel) rfl, by decide +kernel, by decide +kernel, by decide⟩, lw_in 1455 (by decide +kernel) rfl, lw_in 1456 (by decide +kernel) rfl⟩
theorem lL_64 : Cond.methodLink R_law 64 mX12_today.1 ∈ lw_g := lw_in 1454 (by decide +kernel) rfl
theorem kX11_quarrels : OKV mX11_quarrels 0 := ⟨⟨lw_in 90 (by decide +kernel) rfl, lw_in 856 (by decide +kernel) rfl, by decide +kernel, by decide +kernel, by decide⟩, lw_in 854 (by decide +kernel) rfl, lw_in 855 (by decide +kernel) rfl⟩
theorem lL_65 : Cond.methodLink R_law 65 mX11_quarrels.1 ∈ lw_g := lw_in 853 (by decide +kernel) rfl
theorem kX12_quarrels : OKV mX12_quarrels 0 := ⟨⟨lw_in 102 (by decide +kernel) rfl, lw_in 1467 (by decide +kernel) rfl, by decide +kernel, by decide +kernel, by decide⟩, lw_in 1465 (by decide +kernel) rfl, lw_in 1466 (by decide +kernel) rfl⟩
theorem lL_68 : Cond.methodLink R_law 68 mX12_quarrels.1 ∈ lw_g := lw_in 1464 (by decide +kernel) rfl
theorem kX11_walks : OKV mX11_walks 3 := ⟨⟨lw_in 90 (by decide +kernel) rfl, lw_in 868 (by decide +kernel) rfl, by decide +kernel, by decide +kernel, by decide⟩, lw_in 866 (by decide +kernel) rfl, lw_in 867 (by decide +kernel) rfl⟩
theorem lL_69 : Cond.methodLink R_law 69 mX11_walks.1 ∈ lw_g := lw_in 865 (by decide +kernel) rfl
theorem kX12_walks : OKV mX12_walks 3 := ⟨⟨lw_in 102 (by decide +kernel) rfl, lw_in 1471 (by decide +kernel) rfl, by decide +kernel, by decide +kernel, by decide⟩, lw_in 1469 (by decide +kernel) rfl, lw_in 1470 (by decide +kernel) rfl⟩
theorem lL_72 : Cond.methodLink R_law 72 mX12_walks.1 ∈ lw_g := lw_in 1468 (by decide +kernel) rfl
theorem kX11_joined : OKV mX11_joined 1 := ⟨⟨lw_in 90 (by decide +kernel) rfl, lw_in 888 (by decide +kernel) rfl, by decide +kernel, by decide +kernel, by decide⟩, lw_in 886 (by decide +kernel) rfl, lw_in 887 (by decide +kernel) rfl⟩
theorem lL_73 : Cond.methodLink R_law 73 mX11_joined.1 ∈ lw_g := lw_in 885 (by decide +kernel) rfl
theorem kX12_joined : OKV mX12_joined 1 := ⟨⟨lw_in 102 (by decide +kernel) rfl, lw_in 1515 (by decide +kernel) rfl, by decide +kernel, by decide +kernel, by decide⟩, lw_in 1513 (by decide +kernel) rfl, lw_in 1514 (by decide +kernel) rfl⟩
theorem lL_77 : Cond.methodLink R_law 77 mX12_joined.1 ∈ lw_g := lw_in 1512 (by decide +kernel) rfl
theorem kX11_person : OKV mX11_person 1 := ⟨⟨lw_in 90 (by decide +kernel) rfl, lw_in 947 (by decide +kernel) rfl, by decide +kernel, by decide +kernel, by decide⟩, lw_in 945 (by decide +kernel) rfl, lw_in 946 (by decide +kernel) rfl⟩
theorem lL_78 : Cond.methodLink R_law 78 mX11_person.1 ∈ lw_g := lw_in 944 (by decide +kernel) rfl
theorem kX12_person : OKV mX12_person 1 := ⟨⟨lw_in 102 (by decide +kernel) rfl, lw_in 1538 (by decide +kernel) rfl, by decide +kernel, by decide +kernel, by decide⟩, lw_in 1536 (by decide +kernel) rfl, lw_in 1537 (by decide +kernel) rfl⟩
theorem lL_81 : Cond.methodLink R_law 81 mX12_person.1 ∈ lw_g := lw_in 1535 (by decide +kernel) rfl
theorem kX11_sure : OKV mX11_sure 2 := ⟨⟨lw_in 90 (by decide +kernel) rfl, lw_in 955 (by decide +kernel) rfl, by decide +kernel, by decide +kernel, by decide⟩, lw_in 953 (by decide +kernel) rfl, lw_in 954 (by decide +kernel) rfl⟩
theorem lL_82 : Cond.methodLink R_law 82 mX11_sure.1 ∈ lw_g := lw_in 952 (by decide +kernel) rfl
theorem kX12_sure : OKV mX12_sure 2 := ⟨⟨lw_in 102 (by decide +kernel) rfl, lw_in 1542 (by decide +kernel) rfl, by decide +kernel, by decide +kernel, by decide⟩, lw_in 1540 (by decide +kernel) rfl, lw_in 1541 (by decide +kernel) rfl⟩
theorem lL_86 : Cond.methodLink R_law 86 mX12_sure.1 ∈ lw_g := lw_in 1539 (by decide +kernel) rfl
theorem kX11_stay : OKV mX11_stay 2 := ⟨⟨lw_in 90 (by decide +kernel) rfl, lw_in 967 (by decide +kernel) rfl, by decide +kernel, by decide +kernel, by decide⟩, lw_in 965 (by decide +kernel) rfl, lw_in 966 (by decide +kernel) rfl⟩
theorem lL_87 : Cond.methodLink R_law 87 mX11_stay.1 ∈ lw_g := lw_in 964 (by decide +kernel) rfl
theorem kX12_stay : OKV mX12_stay 2 := ⟨⟨lw_in 102 (by decide +kernel) rfl, lw_in 1546 (by decide +kernel) rfl, by decide +kernel, by decide +kernel, by decide⟩, lw_in 1544 (by decide +kernel) rfl, lw_in 1545 (by decide +kernel) rfl⟩
theorem lL_90 : Cond.methodLink R_law 90 mX12_stay.1 ∈ lw_g := lw_in 1543 (by decide +kernel) rfl
theorem kX11_lost : OKV mX11_lost 4 := ⟨⟨lw_in 90 (by decide +kernel) rfl, lw_in 995 (by decide +kernel) rfl, by decide +kernel, by decide +kernel, by decide⟩, lw_in 993 (by decide +kernel) rfl, lw_in 994 (by decide +kernel) rfl⟩
theorem lL_91 : Cond.methodLink R_law 91 mX11_lost.1 ∈ lw_g := lw_in 992 (by decide +kernel) rfl
theorem kX12_lost : OKV mX12_lost 4 := ⟨⟨lw_in 102 (by decide +kernel) rfl, lw_in 1550 (by decide +kernel) rfl, by decide +kernel, by decide +kernel, by decide⟩, lw_in 1548 (by decide +kernel) rfl, lw_in 1549 (by decide +kernel) rfl⟩
theorem lL_95 : Cond.methodLink R_law 95 mX12_lost.1 ∈ lw_g := lw_in 1547 (by decide +kernel) rfl
theorem kX11_found : OKV mX11_found 5 := ⟨⟨lw_in 90 (by decide +kernel) rfl, lw_in 1021 (by decide +kernel) rfl, by decide +kernel, by decide +kernel, by decide⟩, lw_in 1019 (by decide +kernel) rfl, lw_in 1020 (by decide +kernel) rfl⟩
theorem lL_96 : Cond.methodLink R_law 96 mX11_found.1 ∈ lw_g := lw_in 1018 (by decide +kernel) rfl
theorem kX12_found : OKV mX12_found 5 := ⟨⟨lw_in 102 (by decide +kernel) rfl, lw_in 1565 (by decide +kernel) rfl, by decide +kernel, by decide +kernel, by decide⟩, lw_in 1563 (by decide +kernel) rfl, lw_in 1564 (by decide +kernel) rfl⟩
theorem lL_99 : Cond.methodLink R_law 99 mX12_found.1 ∈ lw_g := lw_in 1562 (by decide +kernel) rfl
theorem kX11_missing : OKV mX11_missing 3 := ⟨⟨lw_in 90 (by decide +kernel) rfl, lw_in 1034 (by decide +kernel) rfl, by decide +kernel, by decide +kernel, by decide⟩, lw_in 1032 (by decide +kernel) rfl, lw_in 1033 (by decide +kernel) rfl⟩
theorem lL_100 : Cond.methodLink R_law 100 mX11_missing.1 ∈ lw_g := lw_in 1031 (by decide +kernel) rfl
theorem kX12_missing : OKV mX12_missing 3 := ⟨⟨lw_in 102 (by decide +kernel) rfl, lw_in 1569 (by decide +kernel) rfl, by decide +kernel, by decide +kernel, by decide⟩, lw_in 1567 (by decide +kernel) rfl, lw_in 1568 (by decide +kernel) rfl⟩
theorem lL_103 : Cond.methodLink R_law 103 mX12_missing.1 ∈ lw_g := lw_in 1566 (by decide +kernel) rfl
theorem kX11_shown : OKV mX11_shown 2 := ⟨⟨lw_in 90 (by decide +kernel) rfl, lw_in 1054 (by decide +kernel) rfl, by decide +kernel, by decide +kernel, by decide⟩, lw_in 1052 (by decide +kernel) rfl, lw_in 1053 (by decide +kernel) rfl⟩
theorem lL_104 : Cond.methodLink R_law 104 mX11_shown.1 ∈ lw_g := lw_in 1051 (by decide +kernel) rfl
theorem kX12_shown : OKV mX12_shown 2 := ⟨⟨lw_in 102 (by decide +kernel) rfl, lw_in 1577 (by decide +kernel) rfl, by decide +kernel, by decide +kernel, by decide⟩, lw_in 1575 (by decide +kernel) rfl, lw_in 1576 (by decide +kernel) rfl⟩
theorem lL_107 : Cond.methodLink R_law 107 mX12_shown.1 ∈ lw_g := lw_in 1574 (by decide +kernel) rfl
theorem kX11_leaf : OKV mX11_leaf 2 := ⟨⟨lw_in 90 (by decide +kernel) rfl, lw_in 1058 (by decide +kernel) rfl, by decide +kernel, by decide +kernel, by decide⟩, lw_in 1056 (by decide +kernel) rfl, lw_in 1057 (by decide +kernel) rfl⟩
theorem lL_108 : Cond.methodLink R_law 108 mX11_leaf.1 ∈ lw_g := lw_in 1055 (by decide +kernel) rfl
theorem kX12_leaf : OKV mX12_leaf 2 := ⟨⟨lw_in 102 (by decide +kernel) rfl, lw_in 1581 (by decide +kernel) rfl, by decide +kernel, by decide +kernel, by decide⟩, lw_in 1579 (by decide +kernel) rfl, lw_in 1580 (by decide +kernel) rfl⟩
theorem lL_111 : Cond.methodLink R_law 111 mX12_leaf.1 ∈ lw_g := lw_in 1578 (by decide +kernel) rfl
theorem kX11_next : OKV mX11_next 0 := ⟨⟨lw_in 90 (by decide +kernel) rfl, lw_in 1062 (by decide +kernel) rfl, by decide +kernel, by decide +kernel, by decide⟩, lw_in 1060 (by decide +kernel) rfl, lw_in 1061 (by decide +kernel) rfl⟩
theorem lL_112 : Cond.methodLink R_law 112 mX11_next.1 ∈ lw_g := lw_in 1059 (by decide +kernel) rfl
theorem kX12_next : OKV mX12_next 0 := ⟨⟨lw_in 102 (by decide +kernel) rfl, lw_in 1585 (by decide +kernel) rfl, by decide +kernel, by decide +kernel, by decide⟩, lw_in 1583 (by decide +kernel) rfl, lw_in 1584 (by decide +kernel) rfl⟩
theorem lL_115 : Cond.methodLink R_law 115 mX12_next.1 ∈ lw_g := lw_in 1582 (by decide +kernel) rfl
theorem kX11_kind : OKV mX11_kind 1 := ⟨⟨lw_in 90 (by decide +kernel) rfl, lw_in 1078 (by decide +kernel) rfl, by decide +kernel, by decide +kernel, by decide⟩, lw_in 1076 (by decide +kernel) rfl, lw_in 1077 (by decide +kernel) rfl⟩
theorem lL_116 : Cond.methodLink R_law 116 mX11_kind.1 ∈ lw_g := lw_in 1075 (by decide +kernel) rfl
theorem kX12_kind : OKV mX12_kind 1 := ⟨⟨lw_in 102 (by decide +kernel) rfl, lw_in 1589 (by decide +kernel) rfl, by decide +kernel, by decide +kernel, by decide⟩, lw_in 1587 (by decide +kernel) rfl, lw_in 1588 (by decide +kernel) rfl⟩
theorem lL_119 : Cond.methodLink R_law 119 mX12_kind.1 ∈ lw_g := lw_in 1586 (by decide +kernel) rfl
theorem kX11_as : OKV mX11_as 2 := ⟨⟨lw_in 90 (by decide +kernel) rfl, lw_in 1082 (by decide +kernel) rfl, by decide +kernel, by decide +kernel, by decide⟩, lw_in 1080 (by decide +kernel) rfl, lw_in 1081 (by decide +kernel) rfl⟩
theorem lL_120 : Cond.methodLink R_law 120 mX11_as.1 ∈ lw_g := lw_in 1079 (by decide +kernel) rfl
theorem kX12_as : OKV mX12_as 2 := ⟨⟨lw_in 102 (by decide +kernel) rfl, lw_in 1593 (by decide +kernel) rfl, by decide +kernel, by decide +kernel, by decide⟩, lw_in 1591 (by decide +kernel) rfl, lw_in 1592 (by decide +kernel) rfl⟩
theorem lL_123 : Cond.methodLink R_law 123 mX12_as.1 ∈ lw_g := lw_in 1590 (by decide +kernel) rfl
theorem kX11_ask : OKV mX11_ask 2 := ⟨⟨lw_in 90 (by decide +kernel) rfl, lw_in 1090 (by decide +kernel) rfl, by decide +kernel, by decide +kernel, by decide⟩, lw_in 1088 (by decide +kernel) rfl, lw_in 1089 (by decide +kernel) rfl⟩
theorem lL_124 : Cond.methodLink R_law 124 mX11_ask.1 ∈ lw_g := lw_in 1087 (by decide +kernel) rfl
theorem kX12_ask : OKV mX12_ask 2 := ⟨⟨lw_in 102 (by decide +kernel) rfl, lw_in 1601 (by decide +kernel) rfl, by decide +kernel, by decide +kernel, by decide⟩, lw_in 1599 (by decide +kernel) rfl, lw_in 1600 (by decide +kernel) rfl⟩
theorem lL_127 : Cond.methodLink R_law 127 mX12_ask.1 ∈ lw_g := lw_in 1598 (by decide +kernel) rfl
theorem kX11_trace : OKV mX11_trace 1 := ⟨⟨lw_in 90 (by decide +kernel) rfl, lw_in 1143 (by decide +kernel) rfl, by decide +kernel, by decide +kernel, by decide⟩, lw_in 1141 (by decide +kernel) rfl, lw_in 1142 (by decide +kernel) rfl⟩
theorem lL_128 : Cond.methodLink R_law 128 mX11_trace.1 ∈ lw_g := lw_in 1140 (by decide +kernel) rfl
theorem kX12_trace : OKV mX12_trace 1 := ⟨⟨lw_in 102 (by decide +kernel) rfl, lw_in 1621 (by decide +kernel) rfl, by decide +kernel, by decide +kernel, by decide⟩, lw_in 1619 (by decide +kernel) rfl, lw_in 1620 (by decide +kernel) rfl⟩
theorem lL_131 : Cond.methodLink R_law 131 mX12_trace.1 ∈ lw_g := lw_in 1618 (by decide +kernel) rfl
theorem kX11_count : OKV mX11_count 1 := ⟨⟨lw_in 90 (by decide +kernel) rfl, lw_in 1147 (by decide +kernel) rfl, by decide +kernel, by decide +kernel, by decide⟩, lw_in 1145 (by decide +kernel) rfl, lw_in 1146 (by decide +kernel) rfl⟩
theorem lL_132 : Cond.methodLink R_law 132 mX11_count.1 ∈ lw_g := lw_in 1144 (by decide +kernel) rfl
theorem kX12_count : OKV mX12_count 1 := ⟨⟨lw_in 102 (by decide +kernel) rfl, lw_in 1625 (by decide +kernel) rfl, by decide +kernel, by decide +kernel, by decide⟩, lw_in 1623 (by decide +kernel) rfl, lw_in 1624 (by decide +kernel) rfl⟩
theorem lL_135 : Cond.methodLink R_law 135 mX12_count.1 ∈ lw_g := lw_in 1622 (by decide +kernel) rfl
theorem kX11_status : OKV mX11_status 0 := ⟨⟨lw_in 90 (by decide +kernel) rfl, lw_in 1164 (by decide +kernel) rfl, by decide +kernel, by decide +kernel, by decide⟩, lw_in 1162 (by decide +kernel) rfl, lw_in 1163 (by decide +kernel) rfl⟩
theorem lL_136 : Cond.methodLink R_law 136 mX11_status.1 ∈ lw_g := lw_in 1161 (by decide +kernel) rfl
theorem kX12_status : OKV mX12_status 0 := ⟨⟨lw_in 102 (by decide +kernel) rfl, lw_in 1629 (by decide +kernel) rfl, by decide +kernel, by decide +kernel, by decide⟩, lw_in 1627 (by decide +kernel) rfl, lw_in 1628 (by decide +kernel) rfl⟩
theorem lL_139 : Cond.methodLink R_law 139 mX12_status.1 ∈ lw_g := lw_in 1626 (by decide +kernel) rfl
theorem nL_32 : Cond.constantLong R_law 32 4294967295 ∈ lw_g := lw_in 1630 (by decide +kernel) rfl
theorem dL_0 : decode code 0 = .ok (.new 7, 3) := by decide +kernel
theorem dL_3 : decode code 3 = .ok (.dup, 1) := by decide +kernel
theorem dL_4 : decode code 4 = .ok (.invokespecial 9, 3) := by decide +kernel
theorem dL_7 : decode code 7 = .ok (.astore_n 1, 1) := by decide +kernel
theorem dL_8 : decode code 8 = .ok (.new 10, 3) := by decide +kernel
theorem dL_11 : decode code 11 = .ok (.dup, 1) := by decide +kernel
theorem dL_12 : decode code 12 = .ok (.invokespecial 12, 3) := by decide +kernel
theorem dL_15 : decode code 15 = .ok (.astore_n 2, 1) := by decide +kernel
theorem dL_16 : decode code 16 = .ok (.iconst 0, 1) := by decide +kernel
theorem dL_17 : decode code 17 = .ok (.istore_n 3, 1) := by decide +kernel
theorem dL_18 : decode code 18 = .ok (.iload_n 3, 1) := by decide +kernel
theorem dL_19 : decode code 19 = .ok (.aload_n 0, 1) := by decide +kernel
theorem dL_20 : decode code 20 = .ok (.arraylength, 1) := by decide +kernel
theorem dL_21 : decode code 21 = .ok (.bipush 6, 2) := by decide +kernel
theorem dL_23 : decode code 23 = .ok (.isub, 1) := by decide +kernel
theorem dL_24 : decode code 24 = .ok (.if_icmp .gt 1105, 3) := by decide +kernel
theorem dL_27 : decode code 27 = .ok (.aload_n 0, 1) := by decide +kernel
theorem dL_28 : decode code 28 = .ok (.iload_n 3, 1) := by decide +kernel
theorem dL_29 : decode code 29 = .ok (.iaload, 1) := by decide +kernel
theorem dL_30 : decode code 30 = .ok (.bipush 31, 2) := by decide +kernel
theorem dL_32 : decode code 32 = .ok (.iand, 1) := by decide +kernel
theorem dL_33 : decode code 33 = .ok (.tableswitch 1090 0 28 #[131, 174, 217, 280, 303, 366, 379, 392, 425, 448, 491, 534, 547, 590, 614, 637, 671, 704, 757, 820, 863, 896, 929, 942, 965, 998, 1031, 1054, 1077], 131) := by decide +kernel
theorem dL_164 : decode code 164 = .ok (.aload_n 1, 1) := by decide +kernel
theorem dL_165 : decode code 165 = .ok (.aload_n 0, 1) := by decide +kernel
theorem dL_166 : decode code 166 = .ok (.iload_n 3, 1) := by decide +kernel
theorem dL_167 : decode code 167 = .ok (.iconst 1, 1) := by decide +kernel
theorem dL_168 : decode code 168 = .ok (.iadd, 1) := by decide +kernel
theorem dL_169 : decode code 169 = .ok (.iaload, 1) := by decide +kernel
theorem dL_170 : decode code 170 = .ok (.aload_n 0, 1) := by decide +kernel
theorem dL_171 : decode code 171 = .ok (.iload_n 3, 1) := by decide +kernel
theorem dL_172 : decode code 172 = .ok (.iconst 2, 1) := by decide +kernel
theorem dL_173 : decode code 173 = .ok (.iadd, 1) := by decide +kernel
theorem dL_174 : decode code 174 = .ok (.iaload, 1) := by decide +kernel
theorem dL_175 : decode code 175 = .ok (.aload_n 0, 1) := by decide +kernel
theorem dL_176 : decode code 176 = .ok (.iload_n 3, 1) := by decide +kernel
theorem dL_177 : decode code 177 = .ok (.iconst 3, 1) := by decide +kernel
theorem dL_178 : decode code 178 = .ok (.iadd, 1) := by decide +kernel
theorem dL_179 : decode code 179 = .ok (.iaload, 1) := by decide +kernel
theorem dL_180 : decode code 180 = .ok (.invokevirtual 13, 3) := by decide +kernel
theorem dL_183 : decode code 183 = .ok (.aload_n 2, 1) := by decide +kernel
theorem dL_184 : decode code 184 = .ok (.aload_n 0, 1) := by decide +kernel
theorem dL_185 : decode code 185 = .ok (.iload_n 3, 1) := by decide +kernel
theorem dL_186 : decode code 186 = .ok (.iconst 1, 1) := by decide +kernel
theorem dL_187 : decode code 187 = .ok (.iadd, 1) := by decide +kernel
theorem dL_188 : decode code 188 = .ok (.iaload, 1) := by decide +kernel
theorem dL_189 : decode code 189 = .ok (.aload_n 0, 1) := by decide +kernel
theorem dL_190 : decode code 190 = .ok (.iload_n 3, 1) := by decide +kernel
theorem dL_191 : decode code 191 = .ok (.iconst 2, 1) := by decide +kernel
theorem dL_192 : decode code 192 = .ok (.iadd, 1) := by decide +kernel
theorem dL_193 : decode code 193 = .ok (.iaload, 1) := by decide +kernel
theorem dL_194 : decode code 194 = .ok (.aload_n 0, 1) := by decide +kernel
theorem dL_195 : decode code 195 = .ok (.iload_n 3, 1) := by decide +kernel
theorem dL_196 : decode code 196 = .ok (.iconst 3, 1) := by decide +kernel
theorem dL_197 : decode code 197 = .ok (.iadd, 1) := by decide +kernel
theorem dL_198 : decode code 198 = .ok (.iaload, 1) := by decide +kernel
theorem dL_199 : decode code 199 = .ok (.invokevirtual 17, 3) := by decide +kernel
theorem dL_202 : decode code 202 = .ok (.if_icmp .eq 921, 3) := by decide +kernel
theorem dL_205 : decode code 205 = .ok (.iconst 0, 1) := by decide +kernel
theorem dL_206 : decode code 206 = .ok (.ireturn, 1) := by decide +kernel
theorem dL_207 : decode code 207 = .ok (.aload_n 1, 1) := by decide +kernel
theorem dL_208 : decode code 208 = .ok (.aload_n 0, 1) := by decide +kernel
theorem dL_209 : decode code 209 = .ok (.iload_n 3, 1) := by decide +kernel
theorem dL_210 : decode code 210 = .ok (.iconst 1, 1) := by decide +kernel
theorem dL_211 : decode code 211 = .ok (.iadd, 1) := by decide +kernel
theorem dL_212 : decode code 212 = .ok (.iaload, 1) := by decide +kernel
theorem dL_213 : decode code 213 = .ok (.aload_n 0, 1) := by decide +kernel
theorem dL_214 : decode code 214 = .ok (.iload_n 3, 1) := by decide +kernel
theorem dL_215 : decode code 215 = .ok (.iconst 2, 1) := by decide +kernel
theorem dL_216 : decode code 216 = .ok (.iadd, 1) := by decide +kernel
theorem dL_217 : decode code 217 = .ok (.iaload, 1) := by decide +kernel
theorem dL_218 : decode code 218 = .ok (.aload_n 0, 1) := by decide +kernel
theorem dL_219 : decode code 219 = .ok (.iload_n 3, 1) := by decide +kernel
theorem dL_220 : decode code 220 = .ok (.iconst 3, 1) := by decide +kernel
theorem dL_221 : decode code 221 = .ok (.iadd, 1) := by decide +kernel
theorem dL_222 : decode code 222 = .ok (.iaload, 1) := by decide +kernel
theorem dL_223 : decode code 223 = .ok (.invokevirtual 18, 3) := by decide +kernel
theorem dL_226 : decode code 226 = .ok (.aload_n 2, 1) := by decide +kernel
theorem dL_227 : decode code 227 = .ok (.aload_n 0, 1) := by decide +kernel
theorem dL_228 : decode code 228 = .ok (.iload_n 3, 1) := by decide +kernel
theorem dL_229 : decode code 229 = .ok (.iconst 1, 1) := by decide +kernel
theorem dL_230 : decode code 230 = .ok (.iadd, 1) := by decide +kernel
theorem dL_231 : decode code 231 = .ok (.iaload, 1) := by decide +kernel
theorem dL_232 : decode code 232 = .ok (.aload_n 0, 1) := by decide +kernel
theorem dL_233 : decode code 233 = .ok (.iload_n 3, 1) := by decide +kernel
theorem dL_234 : decode code 234 = .ok (.iconst 2, 1) := by decide +kernel
theorem dL_235 : decode code 235 = .ok (.iadd, 1) := by decide +kernel
theorem dL_236 : decode code 236 = .ok (.iaload, 1) := by decide +kernel
theorem dL_237 : decode code 237 = .ok (.aload_n 0, 1) := by decide +kernel
theorem dL_238 : decode code 238 = .ok (.iload_n 3, 1) := by decide +kernel
theorem dL_239 : decode code 239 = .ok (.iconst 3, 1) := by decide +kernel
theorem dL_240 : decode code 240 = .ok (.iadd, 1) := by decide +kernel
theorem dL_241 : decode code 241 = .ok (.iaload, 1) := by decide +kernel
theorem dL_242 : decode code 242 = .ok (.invokevirtual 21, 3) := by decide +kernel
theorem dL_245 : decode code 245 = .ok (.if_icmp .eq 878, 3) := by decide +kernel
theorem dL_248 : decode code 248 = .ok (.iconst 0, 1) := by decide +kernel
theorem dL_249 : decode code 249 = .ok (.ireturn, 1) := by decide +kernel
theorem dL_250 : decode code 250 = .ok (.aload_n 1, 1) := by decide +kernel
theorem dL_251 : decode code 251 = .ok (.aload_n 0, 1) := by decide +kernel
theorem dL_252 : decode code 252 = .ok (.iload_n 3, 1) := by decide +kernel
theorem dL_253 : decode code 253 = .ok (.iconst 1, 1) := by decide +kernel
theorem dL_254 : decode code 254 = .ok (.iadd, 1) := by decide +kernel
theorem dL_255 : decode code 255 = .ok (.iaload, 1) := by decide +kernel
theorem dL_256 : decode code 256 = .ok (.aload_n 0, 1) := by decide +kernel
theorem dL_257 : decode code 257 = .ok (.iload_n 3, 1) := by decide +kernel
theorem dL_258 : decode code 258 = .ok (.iconst 2, 1) := by decide +kernel
theorem dL_259 : decode code 259 = .ok (.iadd, 1) := by decide +kernel
theorem dL_260 : decode code 260 = .ok (.iaload, 1) := by decide +kernel
theorem dL_261 : decode code 261 = .ok (.aload_n 0, 1) := by decide +kernel
theorem dL_262 : decode code 262 = .ok (.iload_n 3, 1) := by decide +kernel
theorem dL_263 : decode code 263 = .ok (.iconst 3, 1) := by decide +kernel
theorem dL_264 : decode code 264 = .ok (.iadd, 1) := by decide +kernel
theorem dL_265 : decode code 265 = .ok (.iaload, 1) := by decide +kernel
theorem dL_266 : decode code 266 = .ok (.aload_n 0, 1) := by decide +kernel
theorem dL_267 : decode code 267 = .ok (.iload_n 3, 1) := by decide +kernel
theorem dL_268 : decode code 268 = .ok (.iconst 4, 1) := by decide +kernel
theorem dL_269 : decode code 269 = .ok (.iadd, 1) := by decide +kernel
theorem dL_270 : decode code 270 = .ok (.iaload, 1) := by decide +kernel
theorem dL_271 : decode code 271 = .ok (.aload_n 0, 1) := by decide +kernel
theorem dL_272 : decode code 272 = .ok (.iload_n 3, 1) := by decide +kernel
theorem dL_273 : decode code 273 = .ok (.iconst 5, 1) := by decide +kernel
theorem dL_274 : decode code 274 = .ok (.iadd, 1) := by decide +kernel
theorem dL_275 : decode code 275 = .ok (.iaload, 1) := by decide +kernel
theorem dL_276 : decode code 276 = .ok (.invokevirtual 22, 3) := by decide +kernel
theorem dL_279 : decode code 279 = .ok (.aload_n 2, 1) := by decide +kernel
theorem dL_280 : decode code 280 = .ok (.aload_n 0, 1) := by decide +kernel
theorem dL_281 : decode code 281 = .ok (.iload_n 3, 1) := by decide +kernel
theorem dL_282 : decode code 282 = .ok (.iconst 1, 1) := by decide +kernel
theorem dL_283 : decode code 283 = .ok (.iadd, 1) := by decide +kernel
theorem dL_284 : decode code 284 = .ok (.iaload, 1) := by decide +kernel
theorem dL_285 : decode code 285 = .ok (.aload_n 0, 1) := by decide +kernel
theorem dL_286 : decode code 286 = .ok (.iload_n 3, 1) := by decide +kernel
theorem dL_287 : decode code 287 = .ok (.iconst 2, 1) := by decide +kernel
theorem dL_288 : decode code 288 = .ok (.iadd, 1) := by decide +kernel
theorem dL_289 : decode code 289 = .ok (.iaload, 1) := by decide +kernel
theorem dL_290 : decode code 290 = .ok (.aload_n 0, 1) := by decide +kernel
theorem dL_291 : decode code 291 = .ok (.iload_n 3, 1) := by decide +kernel
theorem dL_292 : decode code 292 = .ok (.iconst 3, 1) := by decide +kernel
theorem dL_293 : decode code 293 = .ok (.iadd, 1) := by decide +kernel
theorem dL_294 : decode code 294 = .ok (.iaload, 1) := by decide +kernel
theorem dL_295 : decode code 295 = .ok (.aload_n 0, 1) := by decide +kernel
theorem dL_296 : decode code 296 = .ok (.iload_n 3, 1) := by decide +kernel
theorem dL_297 : decode code 297 = .ok (.iconst 4, 1) := by decide +kernel
theorem dL_298 : decode code 298 = .ok (.iadd, 1) := by decide +kernel
theorem dL_299 : decode code 299 = .ok (.iaload, 1) := by decide +kernel
theorem dL_300 : decode code 300 = .ok (.aload_n 0, 1) := by decide +kernel
theorem dL_301 : decode code 301 = .ok (.iload_n 3, 1) := by decide +kernel
theorem dL_302 : decode code 302 = .ok (.iconst 5, 1) := by decide +kernel
theorem dL_303 : decode code 303 = .ok (.iadd, 1) := by decide +kernel
theorem dL_304 : decode code 304 = .ok (.iaload, 1) := by decide +kernel
theorem dL_305 : decode code 305 = .ok (.invokevirtual 26, 3) := by decide +kernel
theorem dL_308 : decode code 308 = .ok (.if_icmp .eq 815, 3) := by decide +kernel
theorem dL_311 : decode code 311 = .ok (.iconst 0, 1) := by decide +kernel
theorem dL_312 : decode code 312 = .ok (.ireturn, 1) := by decide +kernel
theorem dL_313 : decode code 313 = .ok (.aload_n 1, 1) := by decide +kernel
theorem dL_314 : decode code 314 = .ok (.aload_n 0, 1) := by decide +kernel
theorem dL_315 : decode code 315 = .ok (.iload_n 3, 1) := by decide +kernel
theorem dL_316 : decode code 316 = .ok (.iconst 1, 1) := by decide +kernel
theorem dL_317 : decode code 317 = .ok (.iadd, 1) := by decide +kernel
theorem dL_318 : decode code 318 = .ok (.iaload, 1) := by decide +kernel
theorem dL_319 : decode code 319 = .ok (.invokevirtual 27, 3) := by decide +kernel
theorem dL_322 : decode code 322 = .ok (.aload_n 2, 1) := by decide +kernel
theorem dL_323 : decode code 323 = .ok (.aload_n 0, 1) := by decide +kernel
theorem dL_324 : decode code 324 = .ok (.iload_n 3, 1) := by decide +kernel
theorem dL_325 : decode code 325 = .ok (.iconst 1, 1) := by decide +kernel
theorem dL_326 : decode code 326 = .ok (.iadd, 1) := by decide +kernel
theorem dL_327 : decode code 327 = .ok (.iaload, 1) := by decide +kernel
theorem dL_328 : decode code 328 = .ok (.invokevirtual 31, 3) := by decide +kernel
theorem dL_331 : decode code 331 = .ok (.if_icmp .eq 792, 3) := by decide +kernel
theorem dL_334 : decode code 334 = .ok (.iconst 0, 1) := by decide +kernel
theorem dL_335 : decode code 335 = .ok (.ireturn, 1) := by decide +kernel
theorem dL_336 : decode code 336 = .ok (.aload_n 1, 1) := by decide +kernel
theorem dL_337 : decode code 337 = .ok (.aload_n 0, 1) := by decide +kernel
theorem dL_338 : decode code 338 = .ok (.iload_n 3, 1) := by decide +kernel
theorem dL_339 : decode code 339 = .ok (.iconst 1, 1) := by decide +kernel
theorem dL_340 : decode code 340 = .ok (.iadd, 1) := by decide +kernel
theorem dL_341 : decode code 341 = .ok (.iaload, 1) := by decide +kernel
theorem dL_342 : decode code 342 = .ok (.i2l, 1) := by decide +kernel
theorem dL_343 : decode code 343 = .ok (.bipush 32, 2) := by decide +kernel
theorem dL_345 : decode code 345 = .ok (.lshl, 1) := by decide +kernel
theorem dL_346 : decode code 346 = .ok (.aload_n 0, 1) := by decide +kernel
theorem dL_347 : decode code 347 = .ok (.iload_n 3, 1) := by decide +kernel
theorem dL_348 : decode code 348 = .ok (.iconst 2, 1) := by decide +kernel
theorem dL_349 : decode code 349 = .ok (.iadd, 1) := by decide +kernel
theorem dL_350 : decode code 350 = .ok (.iaload, 1) := by decide +kernel
theorem dL_351 : decode code 351 = .ok (.i2l, 1) := by decide +kernel
theorem dL_352 : decode code 352 = .ok (.ldc2_w 32, 3) := by decide +kernel
theorem dL_355 : decode code 355 = .ok (.land, 1) := by decide +kernel
theorem dL_356 : decode code 356 = .ok (.lor, 1) := by decide +kernel
theorem dL_357 : decode code 357 = .ok (.aload_n 0, 1) := by decide +kernel
theorem dL_358 : decode code 358 = .ok (.iload_n 3, 1) := by decide +kernel
theorem dL_359 : decode code 359 = .ok (.iconst 3, 1) := by decide +kernel
theorem dL_360 : decode code 360 = .ok (.iadd, 1) := by decide +kernel
theorem dL_361 : decode code 361 = .ok (.iaload, 1) := by decide +kernel
theorem dL_362 : decode code 362 = .ok (.invokevirtual 34, 3) := by decide +kernel
theorem dL_365 : decode code 365 = .ok (.aload_n 2, 1) := by decide +kernel
theorem dL_366 : decode code 366 = .ok (.aload_n 0, 1) := by decide +kernel
theorem dL_367 : decode code 367 = .ok (.iload_n 3, 1) := by decide +kernel
theorem dL_368 : decode code 368 = .ok (.iconst 1, 1) := by decide +kernel
theorem dL_369 : decode code 369 = .ok (.iadd, 1) := by decide +kernel
theorem dL_370 : decode code 370 = .ok (.iaload, 1) := by decide +kernel
theorem dL_371 : decode code 371 = .ok (.i2l, 1) := by decide +kernel
theorem dL_372 : decode code 372 = .ok (.bipush 32, 2) := by decide +kernel
theorem dL_374 : decode code 374 = .ok (.lshl, 1) := by decide +kernel
theorem dL_375 : decode code 375 = .ok (.aload_n 0, 1) := by decide +kernel
theorem dL_376 : decode code 376 = .ok (.iload_n 3, 1) := by decide +kernel
theorem dL_377 : decode code 377 = .ok (.iconst 2, 1) := by decide +kernel
theorem dL_378 : decode code 378 = .ok (.iadd, 1) := by decide +kernel
theorem dL_379 : decode code 379 = .ok (.iaload, 1) := by decide +kernel
theorem dL_380 : decode code 380 = .ok (.i2l, 1) := by decide +kernel
theorem dL_381 : decode code 381 = .ok (.ldc2_w 32, 3) := by decide +kernel
theorem dL_384 : decode code 384 = .ok (.land, 1) := by decide +kernel
theorem dL_385 : decode code 385 = .ok (.lor, 1) := by decide +kernel
theorem dL_386 : decode code 386 = .ok (.aload_n 0, 1) := by decide +kernel
theorem dL_387 : decode code 387 = .ok (.iload_n 3, 1) := by decide +kernel
theorem dL_388 : decode code 388 = .ok (.iconst 3, 1) := by decide +kernel
theorem dL_389 : decode code 389 = .ok (.iadd, 1) := by decide +kernel
theorem dL_390 : decode code 390 = .ok (.iaload, 1) := by decide +kernel
theorem dL_391 : decode code 391 = .ok (.invokevirtual 38, 3) := by decide +kernel
theorem dL_394 : decode code 394 = .ok (.if_icmp .eq 729, 3) := by decide +kernel
theorem dL_397 : decode code 397 = .ok (.iconst 0, 1) := by decide +kernel
theorem dL_398 : decode code 398 = .ok (.ireturn, 1) := by decide +kernel
theorem dL_399 : decode code 399 = .ok (.aload_n 1, 1) := by decide +kernel
theorem dL_400 : decode code 400 = .ok (.invokevirtual 39, 3) := by decide +kernel
theorem dL_403 : decode code 403 = .ok (.aload_n 2, 1) := by decide +kernel
theorem dL_404 : decode code 404 = .ok (.invokevirtual 43, 3) := by decide +kernel
theorem dL_407 : decode code 407 = .ok (.if_icmp .eq 716, 3) := by decide +kernel
theorem dL_410 : decode code 410 = .ok (.iconst 0, 1) := by decide +kernel
theorem dL_411 : decode code 411 = .ok (.ireturn, 1) := by decide +kernel
theorem dL_412 : decode code 412 = .ok (.aload_n 1, 1) := by decide +kernel
theorem dL_413 : decode code 413 = .ok (.invokevirtual 44, 3) := by decide +kernel
theorem dL_416 : decode code 416 = .ok (.aload_n 2, 1) := by decide +kernel
theorem dL_417 : decode code 417 = .ok (.invokevirtual 47, 3) := by decide +kernel
theorem dL_420 : decode code 420 = .ok (.if_icmp .eq 703, 3) := by decide +kernel
theorem dL_423 : decode code 423 = .ok (.iconst 0, 1) := by decide +kernel
theorem dL_424 : decode code 424 = .ok (.ireturn, 1) := by decide +kernel
theorem dL_425 : decode code 425 = .ok (.aload_n 1, 1) := by decide +kernel
theorem dL_426 : decode code 426 = .ok (.aload_n 0, 1) := by decide +kernel
theorem dL_427 : decode code 427 = .ok (.iload_n 3, 1) := by decide +kernel
theorem dL_428 : decode code 428 = .ok (.iconst 1, 1) := by decide +kernel
theorem dL_429 : decode code 429 = .ok (.iadd, 1) := by decide +kernel
theorem dL_430 : decode code 430 = .ok (.iaload, 1) := by decide +kernel
theorem dL_431 : decode code 431 = .ok (.aload_n 0, 1) := by decide +kernel
theorem dL_432 : decode code 432 = .ok (.iload_n 3, 1) := by decide +kernel
theorem dL_433 : decode code 433 = .ok (.iconst 2, 1) := by decide +kernel
theorem dL_434 : decode code 434 = .ok (.iadd, 1) := by decide +kernel
theorem dL_435 : decode code 435 = .ok (.iaload, 1) := by decide +kernel
theorem dL_436 : decode code 436 = .ok (.invokevirtual 48, 3) := by decide +kernel
theorem dL_439 : decode code 439 = .ok (.aload_n 2, 1) := by decide +kernel
theorem dL_440 : decode code 440 = .ok (.aload_n 0, 1) := by decide +kernel
theorem dL_441 : decode code 441 = .ok (.iload_n 3, 1) := by decide +kernel
theorem dL_442 : decode code 442 = .ok (.iconst 1, 1) := by decide +kernel
theorem dL_443 : decode code 443 = .ok (.iadd, 1) := by decide +kernel
theorem dL_444 : decode code 444 = .ok (.iaload, 1) := by decide +kernel
theorem dL_445 : decode code 445 = .ok (.aload_n 0, 1) := by decide +kernel
theorem dL_446 : decode code 446 = .ok (.iload_n 3, 1) := by decide +kernel
theorem dL_447 : decode code 447 = .ok (.iconst 2, 1) := by decide +kernel
theorem dL_448 : decode code 448 = .ok (.iadd, 1) := by decide +kernel
theorem dL_449 : decode code 449 = .ok (.iaload, 1) := by decide +kernel
theorem dL_450 : decode code 450 = .ok (.invokevirtual 52, 3) := by decide +kernel
theorem dL_453 : decode code 453 = .ok (.if_icmp .eq 670, 3) := by decide +kernel
theorem dL_456 : decode code 456 = .ok (.iconst 0, 1) := by decide +kernel
theorem dL_457 : decode code 457 = .ok (.ireturn, 1) := by decide +kernel
theorem dL_458 : decode code 458 = .ok (.aload_n 1, 1) := by decide +kernel
theorem dL_459 : decode code 459 = .ok (.aload_n 0, 1) := by decide +kernel
theorem dL_460 : decode code 460 = .ok (.iload_n 3, 1) := by decide +kernel
theorem dL_461 : decode code 461 = .ok (.iconst 1, 1) := by decide +kernel
theorem dL_462 : decode code 462 = .ok (.iadd, 1) := by decide +kernel
theorem dL_463 : decode code 463 = .ok (.iaload, 1) := by decide +kernel
theorem dL_464 : decode code 464 = .ok (.invokevirtual 53, 3) := by decide +kernel
theorem dL_467 : decode code 467 = .ok (.aload_n 2, 1) := by decide +kernel
theorem dL_468 : decode code 468 = .ok (.aload_n 0, 1) := by decide +kernel
theorem dL_469 : decode code 469 = .ok (.iload_n 3, 1) := by decide +kernel
theorem dL_470 : decode code 470 = .ok (.iconst 1, 1) := by decide +kernel
theorem dL_471 : decode code 471 = .ok (.iadd, 1) := by decide +kernel
theorem dL_472 : decode code 472 = .ok (.iaload, 1) := by decide +kernel
theorem dL_473 : decode code 473 = .ok (.invokevirtual 56, 3) := by decide +kernel
theorem dL_476 : decode code 476 = .ok (.if_icmp .eq 647, 3) := by decide +kernel
theorem dL_479 : decode code 479 = .ok (.iconst 0, 1) := by decide +kernel
theorem dL_480 : decode code 480 = .ok (.ireturn, 1) := by decide +kernel
theorem dL_481 : decode code 481 = .ok (.aload_n 1, 1) := by decide +kernel
theorem dL_482 : decode code 482 = .ok (.aload_n 0, 1) := by decide +kernel
theorem dL_483 : decode code 483 = .ok (.iload_n 3, 1) := by decide +kernel
theorem dL_484 : decode code 484 = .ok (.iconst 1, 1) := by decide +kernel
theorem dL_485 : decode code 485 = .ok (.iadd, 1) := by decide +kernel
theorem dL_486 : decode code 486 = .ok (.iaload, 1) := by decide +kernel
theorem dL_487 : decode code 487 = .ok (.aload_n 0, 1) := by decide +kernel
theorem dL_488 : decode code 488 = .ok (.iload_n 3, 1) := by decide +kernel
theorem dL_489 : decode code 489 = .ok (.iconst 2, 1) := by decide +kernel
theorem dL_490 : decode code 490 = .ok (.iadd, 1) := by decide +kernel
theorem dL_491 : decode code 491 = .ok (.iaload, 1) := by decide +kernel
theorem dL_492 : decode code 492 = .ok (.aload_n 0, 1) := by decide +kernel
theorem dL_493 : decode code 493 = .ok (.iload_n 3, 1) := by decide +kernel
theorem dL_494 : decode code 494 = .ok (.iconst 3, 1) := by decide +kernel
theorem dL_495 : decode code 495 = .ok (.iadd, 1) := by decide +kernel
theorem dL_496 : decode code 496 = .ok (.iaload, 1) := by decide +kernel
theorem dL_497 : decode code 497 = .ok (.invokevirtual 57, 3) := by decide +kernel
theorem dL_500 : decode code 500 = .ok (.aload_n 2, 1) := by decide +kernel
theorem dL_501 : decode code 501 = .ok (.aload_n 0, 1) := by decide +kernel
theorem dL_502 : decode code 502 = .ok (.iload_n 3, 1) := by decide +kernel
theorem dL_503 : decode code 503 = .ok (.iconst 1, 1) := by decide +kernel
theorem dL_504 : decode code 504 = .ok (.iadd, 1) := by decide +kernel
theorem dL_505 : decode code 505 = .ok (.iaload, 1) := by decide +kernel
theorem dL_506 : decode code 506 = .ok (.aload_n 0, 1) := by decide +kernel
theorem dL_507 : decode code 507 = .ok (.iload_n 3, 1) := by decide +kernel
theorem dL_508 : decode code 508 = .ok (.iconst 2, 1) := by decide +kernel
theorem dL_509 : decode code 509 = .ok (.iadd, 1) := by decide +kernel
theorem dL_510 : decode code 510 = .ok (.iaload, 1) := by decide +kernel
theorem dL_511 : decode code 511 = .ok (.aload_n 0, 1) := by decide +kernel
theorem dL_512 : decode code 512 = .ok (.iload_n 3, 1) := by decide +kernel
theorem dL_513 : decode code 513 = .ok (.iconst 3, 1) := by decide +kernel
theorem dL_514 : decode code 514 = .ok (.iadd, 1) := by decide +kernel
theorem dL_515 : decode code 515 = .ok (.iaload, 1) := by decide +kernel
theorem dL_516 : decode code 516 = .ok (.invokevirtual 60, 3) := by decide +kernel
theorem dL_519 : decode code 519 = .ok (.if_icmp .eq 604, 3) := by decide +kernel
theorem dL_522 : decode code 522 = .ok (.iconst 0, 1) := by decide +kernel
theorem dL_523 : decode code 523 = .ok (.ireturn, 1) := by decide +kernel
theorem dL_524 : decode code 524 = .ok (.aload_n 1, 1) := by decide +kernel
theorem dL_525 : decode code 525 = .ok (.aload_n 0, 1) := by decide +kernel
theorem dL_526 : decode code 526 = .ok (.iload_n 3, 1) := by decide +kernel
theorem dL_527 : decode code 527 = .ok (.iconst 1, 1) := by decide +kernel
theorem dL_528 : decode code 528 = .ok (.iadd, 1) := by decide +kernel
theorem dL_529 : decode code 529 = .ok (.iaload, 1) := by decide +kernel
theorem dL_530 : decode code 530 = .ok (.aload_n 0, 1) := by decide +kernel
theorem dL_531 : decode code 531 = .ok (.iload_n 3, 1) := by decide +kernel
theorem dL_532 : decode code 532 = .ok (.iconst 2, 1) := by decide +kernel
theorem dL_533 : decode code 533 = .ok (.iadd, 1) := by decide +kernel
theorem dL_534 : decode code 534 = .ok (.iaload, 1) := by decide +kernel
theorem dL_535 : decode code 535 = .ok (.aload_n 0, 1) := by decide +kernel
theorem dL_536 : decode code 536 = .ok (.iload_n 3, 1) := by decide +kernel
theorem dL_537 : decode code 537 = .ok (.iconst 3, 1) := by decide +kernel
theorem dL_538 : decode code 538 = .ok (.iadd, 1) := by decide +kernel
theorem dL_539 : decode code 539 = .ok (.iaload, 1) := by decide +kernel
theorem dL_540 : decode code 540 = .ok (.invokevirtual 61, 3) := by decide +kernel
theorem dL_543 : decode code 543 = .ok (.aload_n 2, 1) := by decide +kernel
theorem dL_544 : decode code 544 = .ok (.aload_n 0, 1) := by decide +kernel
theorem dL_545 : decode code 545 = .ok (.iload_n 3, 1) := by decide +kernel
theorem dL_546 : decode code 546 = .ok (.iconst 1, 1) := by decide +kernel
theorem dL_547 : decode code 547 = .ok (.iadd, 1) := by decide +kernel
theorem dL_548 : decode code 548 = .ok (.iaload, 1) := by decide +kernel
theorem dL_549 : decode code 549 = .ok (.aload_n 0, 1) := by decide +kernel
theorem dL_550 : decode code 550 = .ok (.iload_n 3, 1) := by decide +kernel
theorem dL_551 : decode code 551 = .ok (.iconst 2, 1) := by decide +kernel
theorem dL_552 : decode code 552 = .ok (.iadd, 1) := by decide +kernel
theorem dL_553 : decode code 553 = .ok (.iaload, 1) := by decide +kernel
theorem dL_554 : decode code 554 = .ok (.aload_n 0, 1) := by decide +kernel
theorem dL_555 : decode code 555 = .ok (.iload_n 3, 1) := by decide +kernel
theorem dL_556 : decode code 556 = .ok (.iconst 3, 1) := by decide +kernel
theorem dL_557 : decode code 557 = .ok (.iadd, 1) := by decide +kernel
theorem dL_558 : decode code 558 = .ok (.iaload, 1) := by decide +kernel
theorem dL_559 : decode code 559 = .ok (.invokevirtual 64, 3) := by decide +kernel
theorem dL_562 : decode code 562 = .ok (.if_icmp .eq 561, 3) := by decide +kernel
theorem dL_565 : decode code 565 = .ok (.iconst 0, 1) := by decide +kernel
theorem dL_566 : decode code 566 = .ok (.ireturn, 1) := by decide +kernel
theorem dL_567 : decode code 567 = .ok (.aload_n 1, 1) := by decide +kernel
theorem dL_568 : decode code 568 = .ok (.invokevirtual 65, 3) := by decide +kernel
theorem dL_571 : decode code 571 = .ok (.aload_n 2, 1) := by decide +kernel
theorem dL_572 : decode code 572 = .ok (.invokevirtual 68, 3) := by decide +kernel
theorem dL_575 : decode code 575 = .ok (.if_icmp .eq 548, 3) := by decide +kernel
theorem dL_578 : decode code 578 = .ok (.iconst 0, 1) := by decide +kernel
theorem dL_579 : decode code 579 = .ok (.ireturn, 1) := by decide +kernel
theorem dL_580 : decode code 580 = .ok (.aload_n 1, 1) := by decide +kernel
theorem dL_581 : decode code 581 = .ok (.aload_n 0, 1) := by decide +kernel
theorem dL_582 : decode code 582 = .ok (.iload_n 3, 1) := by decide +kernel
theorem dL_583 : decode code 583 = .ok (.iconst 1, 1) := by decide +kernel
theorem dL_584 : decode code 584 = .ok (.iadd, 1) := by decide +kernel
theorem dL_585 : decode code 585 = .ok (.iaload, 1) := by decide +kernel
theorem dL_586 : decode code 586 = .ok (.aload_n 0, 1) := by decide +kernel
theorem dL_587 : decode code 587 = .ok (.iload_n 3, 1) := by decide +kernel
theorem dL_588 : decode code 588 = .ok (.iconst 2, 1) := by decide +kernel
theorem dL_589 : decode code 589 = .ok (.iadd, 1) := by decide +kernel
theorem dL_590 : decode code 590 = .ok (.iaload, 1) := by decide +kernel
theorem dL_591 : decode code 591 = .ok (.aload_n 0, 1) := by decide +kernel
theorem dL_592 : decode code 592 = .ok (.iload_n 3, 1) := by decide +kernel
theorem dL_593 : decode code 593 = .ok (.iconst 3, 1) := by decide +kernel
theorem dL_594 : decode code 594 = .ok (.iadd, 1) := by decide +kernel
theorem dL_595 : decode code 595 = .ok (.iaload, 1) := by decide +kernel
theorem dL_596 : decode code 596 = .ok (.invokevirtual 69, 3) := by decide +kernel
theorem dL_599 : decode code 599 = .ok (.aload_n 2, 1) := by decide +kernel
theorem dL_600 : decode code 600 = .ok (.aload_n 0, 1) := by decide +kernel
theorem dL_601 : decode code 601 = .ok (.iload_n 3, 1) := by decide +kernel
theorem dL_602 : decode code 602 = .ok (.iconst 1, 1) := by decide +kernel
theorem dL_603 : decode code 603 = .ok (.iadd, 1) := by decide +kernel
theorem dL_604 : decode code 604 = .ok (.iaload, 1) := by decide +kernel
theorem dL_605 : decode code 605 = .ok (.aload_n 0, 1) := by decide +kernel
theorem dL_606 : decode code 606 = .ok (.iload_n 3, 1) := by decide +kernel
theorem dL_607 : decode code 607 = .ok (.iconst 2, 1) := by decide +kernel
theorem dL_608 : decode code 608 = .ok (.iadd, 1) := by decide +kernel
theorem dL_609 : decode code 609 = .ok (.iaload, 1) := by decide +kernel
theorem dL_610 : decode code 610 = .ok (.aload_n 0, 1) := by decide +kernel
theorem dL_611 : decode code 611 = .ok (.iload_n 3, 1) := by decide +kernel
theorem dL_612 : decode code 612 = .ok (.iconst 3, 1) := by decide +kernel
theorem dL_613 : decode code 613 = .ok (.iadd, 1) := by decide +kernel
theorem dL_614 : decode code 614 = .ok (.iaload, 1) := by decide +kernel
theorem dL_615 : decode code 615 = .ok (.invokevirtual 72, 3) := by decide +kernel
theorem dL_618 : decode code 618 = .ok (.if_icmp .eq 505, 3) := by decide +kernel
theorem dL_621 : decode code 621 = .ok (.iconst 0, 1) := by decide +kernel
theorem dL_622 : decode code 622 = .ok (.ireturn, 1) := by decide +kernel
theorem dL_623 : decode code 623 = .ok (.aload_n 1, 1) := by decide +kernel
theorem dL_624 : decode code 624 = .ok (.aload_n 0, 1) := by decide +kernel
theorem dL_625 : decode code 625 = .ok (.iload_n 3, 1) := by decide +kernel
theorem dL_626 : decode code 626 = .ok (.iconst 1, 1) := by decide +kernel
theorem dL_627 : decode code 627 = .ok (.iadd, 1) := by decide +kernel
theorem dL_628 : decode code 628 = .ok (.iaload, 1) := by decide +kernel
theorem dL_629 : decode code 629 = .ok (.invokevirtual 73, 3) := by decide +kernel
theorem dL_632 : decode code 632 = .ok (.aload_n 2, 1) := by decide +kernel
theorem dL_633 : decode code 633 = .ok (.aload_n 0, 1) := by decide +kernel
theorem dL_634 : decode code 634 = .ok (.iload_n 3, 1) := by decide +kernel
theorem dL_635 : decode code 635 = .ok (.iconst 1, 1) := by decide +kernel
theorem dL_636 : decode code 636 = .ok (.iadd, 1) := by decide +kernel
theorem dL_637 : decode code 637 = .ok (.iaload, 1) := by decide +kernel
theorem dL_638 : decode code 638 = .ok (.invokevirtual 77, 3) := by decide +kernel
theorem dL_641 : decode code 641 = .ok (.lcmp, 1) := by decide +kernel
theorem dL_642 : decode code 642 = .ok (.ifCond .eq 481, 3) := by decide +kernel
theorem dL_645 : decode code 645 = .ok (.iconst 0, 1) := by decide +kernel
theorem dL_646 : decode code 646 = .ok (.ireturn, 1) := by decide +kernel
theorem dL_647 : decode code 647 = .ok (.aload_n 1, 1) := by decide +kernel
theorem dL_648 : decode code 648 = .ok (.aload_n 0, 1) := by decide +kernel
theorem dL_649 : decode code 649 = .ok (.iload_n 3, 1) := by decide +kernel
theorem dL_650 : decode code 650 = .ok (.iconst 1, 1) := by decide +kernel
theorem dL_651 : decode code 651 = .ok (.iadd, 1) := by decide +kernel
theorem dL_652 : decode code 652 = .ok (.iaload, 1) := by decide +kernel
theorem dL_653 : decode code 653 = .ok (.invokevirtual 78, 3) := by decide +kernel
theorem dL_656 : decode code 656 = .ok (.aload_n 2, 1) := by decide +kernel
theorem dL_657 : decode code 657 = .ok (.aload_n 0, 1) := by decide +kernel
theorem dL_658 : decode code 658 = .ok (.iload_n 3, 1) := by decide +kernel
theorem dL_659 : decode code 659 = .ok (.iconst 1, 1) := by decide +kernel
theorem dL_660 : decode code 660 = .ok (.iadd, 1) := by decide +kernel
theorem dL_661 : decode code 661 = .ok (.iaload, 1) := by decide +kernel
theorem dL_662 : decode code 662 = .ok (.invokevirtual 81, 3) := by decide +kernel
theorem dL_665 : decode code 665 = .ok (.if_icmp .eq 458, 3) := by decide +kernel
theorem dL_668 : decode code 668 = .ok (.iconst 0, 1) := by decide +kernel
theorem dL_669 : decode code 669 = .ok (.ireturn, 1) := by decide +kernel
theorem dL_670 : decode code 670 = .ok (.aload_n 1, 1) := by decide +kernel
theorem dL_671 : decode code 671 = .ok (.aload_n 0, 1) := by decide +kernel
theorem dL_672 : decode code 672 = .ok (.iload_n 3, 1) := by decide +kernel
theorem dL_673 : decode code 673 = .ok (.iconst 1, 1) := by decide +kernel
theorem dL_674 : decode code 674 = .ok (.iadd, 1) := by decide +kernel
theorem dL_675 : decode code 675 = .ok (.iaload, 1) := by decide +kernel
theorem dL_676 : decode code 676 = .ok (.aload_n 0, 1) := by decide +kernel
theorem dL_677 : decode code 677 = .ok (.iload_n 3, 1) := by decide +kernel
theorem dL_678 : decode code 678 = .ok (.iconst 2, 1) := by decide +kernel
theorem dL_679 : decode code 679 = .ok (.iadd, 1) := by decide +kernel
theorem dL_680 : decode code 680 = .ok (.iaload, 1) := by decide +kernel
theorem dL_681 : decode code 681 = .ok (.invokevirtual 82, 3) := by decide +kernel
theorem dL_684 : decode code 684 = .ok (.aload_n 2, 1) := by decide +kernel
theorem dL_685 : decode code 685 = .ok (.aload_n 0, 1) := by decide +kernel
theorem dL_686 : decode code 686 = .ok (.iload_n 3, 1) := by decide +kernel
theorem dL_687 : decode code 687 = .ok (.iconst 1, 1) := by decide +kernel
theorem dL_688 : decode code 688 = .ok (.iadd, 1) := by decide +kernel
theorem dL_689 : decode code 689 = .ok (.iaload, 1) := by decide +kernel
theorem dL_690 : decode code 690 = .ok (.aload_n 0, 1) := by decide +kernel
theorem dL_691 : decode code 691 = .ok (.iload_n 3, 1) := by decide +kernel
theorem dL_692 : decode code 692 = .ok (.iconst 2, 1) := by decide +kernel
theorem dL_693 : decode code 693 = .ok (.iadd, 1) := by decide +kernel
theorem dL_694 : decode code 694 = .ok (.iaload, 1) := by decide +kernel
theorem dL_695 : decode code 695 = .ok (.invokevirtual 86, 3) := by decide +kernel
theorem dL_698 : decode code 698 = .ok (.lcmp, 1) := by decide +kernel
theorem dL_699 : decode code 699 = .ok (.ifCond .eq 424, 3) := by decide +kernel
theorem dL_702 : decode code 702 = .ok (.iconst 0, 1) := by decide +kernel
theorem dL_703 : decode code 703 = .ok (.ireturn, 1) := by decide +kernel
theorem dL_704 : decode code 704 = .ok (.aload_n 1, 1) := by decide +kernel
theorem dL_705 : decode code 705 = .ok (.aload_n 0, 1) := by decide +kernel
theorem dL_706 : decode code 706 = .ok (.iload_n 3, 1) := by decide +kernel
theorem dL_707 : decode code 707 = .ok (.iconst 1, 1) := by decide +kernel
theorem dL_708 : decode code 708 = .ok (.iadd, 1) := by decide +kernel
theorem dL_709 : decode code 709 = .ok (.iaload, 1) := by decide +kernel
theorem dL_710 : decode code 710 = .ok (.aload_n 0, 1) := by decide +kernel
theorem dL_711 : decode code 711 = .ok (.iload_n 3, 1) := by decide +kernel
theorem dL_712 : decode code 712 = .ok (.iconst 2, 1) := by decide +kernel
theorem dL_713 : decode code 713 = .ok (.iadd, 1) := by decide +kernel
theorem dL_714 : decode code 714 = .ok (.iaload, 1) := by decide +kernel
theorem dL_715 : decode code 715 = .ok (.invokevirtual 87, 3) := by decide +kernel
theorem dL_718 : decode code 718 = .ok (.aload_n 2, 1) := by decide +kernel
theorem dL_719 : decode code 719 = .ok (.aload_n 0, 1) := by decide +kernel
theorem dL_720 : decode code 720 = .ok (.iload_n 3, 1) := by decide +kernel
theorem dL_721 : decode code 721 = .ok (.iconst 1, 1) := by decide +kernel
theorem dL_722 : decode code 722 = .ok (.iadd, 1) := by decide +kernel
theorem dL_723 : decode code 723 = .ok (.iaload, 1) := by decide +kernel
theorem dL_724 : decode code 724 = .ok (.aload_n 0, 1) := by decide +kernel
theorem dL_725 : decode code 725 = .ok (.iload_n 3, 1) := by decide +kernel
theorem dL_726 : decode code 726 = .ok (.iconst 2, 1) := by decide +kernel
theorem dL_727 : decode code 727 = .ok (.iadd, 1) := by decide +kernel
theorem dL_728 : decode code 728 = .ok (.iaload, 1) := by decide +kernel
theorem dL_729 : decode code 729 = .ok (.invokevirtual 90, 3) := by decide +kernel
theorem dL_732 : decode code 732 = .ok (.if_icmp .eq 391, 3) := by decide +kernel
theorem dL_735 : decode code 735 = .ok (.iconst 0, 1) := by decide +kernel
theorem dL_736 : decode code 736 = .ok (.ireturn, 1) := by decide +kernel
theorem dL_737 : decode code 737 = .ok (.aload_n 1, 1) := by decide +kernel
theorem dL_738 : decode code 738 = .ok (.aload_n 0, 1) := by decide +kernel
theorem dL_739 : decode code 739 = .ok (.iload_n 3, 1) := by decide +kernel
theorem dL_740 : decode code 740 = .ok (.iconst 1, 1) := by decide +kernel
theorem dL_741 : decode code 741 = .ok (.iadd, 1) := by decide +kernel
theorem dL_742 : decode code 742 = .ok (.iaload, 1) := by decide +kernel
theorem dL_743 : decode code 743 = .ok (.aload_n 0, 1) := by decide +kernel
theorem dL_744 : decode code 744 = .ok (.iload_n 3, 1) := by decide +kernel
theorem dL_745 : decode code 745 = .ok (.iconst 2, 1) := by decide +kernel
theorem dL_746 : decode code 746 = .ok (.iadd, 1) := by decide +kernel
theorem dL_747 : decode code 747 = .ok (.iaload, 1) := by decide +kernel
theorem dL_748 : decode code 748 = .ok (.aload_n 0, 1) := by decide +kernel
theorem dL_749 : decode code 749 = .ok (.iload_n 3, 1) := by decide +kernel
theorem dL_750 : decode code 750 = .ok (.iconst 3, 1) := by decide +kernel
theorem dL_751 : decode code 751 = .ok (.iadd, 1) := by decide +kernel
theorem dL_752 : decode code 752 = .ok (.iaload, 1) := by decide +kernel
theorem dL_753 : decode code 753 = .ok (.aload_n 0, 1) := by decide +kernel
theorem dL_754 : decode code 754 = .ok (.iload_n 3, 1) := by decide +kernel
theorem dL_755 : decode code 755 = .ok (.iconst 4, 1) := by decide +kernel
theorem dL_756 : decode code 756 = .ok (.iadd, 1) := by decide +kernel
theorem dL_757 : decode code 757 = .ok (.iaload, 1) := by decide +kernel
theorem dL_758 : decode code 758 = .ok (.invokevirtual 91, 3) := by decide +kernel
theorem dL_761 : decode code 761 = .ok (.aload_n 2, 1) := by decide +kernel
theorem dL_762 : decode code 762 = .ok (.aload_n 0, 1) := by decide +kernel
theorem dL_763 : decode code 763 = .ok (.iload_n 3, 1) := by decide +kernel
theorem dL_764 : decode code 764 = .ok (.iconst 1, 1) := by decide +kernel
theorem dL_765 : decode code 765 = .ok (.iadd, 1) := by decide +kernel
theorem dL_766 : decode code 766 = .ok (.iaload, 1) := by decide +kernel
theorem dL_767 : decode code 767 = .ok (.aload_n 0, 1) := by decide +kernel
theorem dL_768 : decode code 768 = .ok (.iload_n 3, 1) := by decide +kernel
theorem dL_769 : decode code 769 = .ok (.iconst 2, 1) := by decide +kernel
theorem dL_770 : decode code 770 = .ok (.iadd, 1) := by decide +kernel
theorem dL_771 : decode code 771 = .ok (.iaload, 1) := by decide +kernel
theorem dL_772 : decode code 772 = .ok (.aload_n 0, 1) := by decide +kernel
theorem dL_773 : decode code 773 = .ok (.iload_n 3, 1) := by decide +kernel
theorem dL_774 : decode code 774 = .ok (.iconst 3, 1) := by decide +kernel
theorem dL_775 : decode code 775 = .ok (.iadd, 1) := by decide +kernel
theorem dL_776 : decode code 776 = .ok (.iaload, 1) := by decide +kernel
theorem dL_777 : decode code 777 = .ok (.aload_n 0, 1) := by decide +kernel
theorem dL_778 : decode code 778 = .ok (.iload_n 3, 1) := by decide +kernel
theorem dL_779 : decode code 779 = .ok (.iconst 4, 1) := by decide +kernel
theorem dL_780 : decode code 780 = .ok (.iadd, 1) := by decide +kernel
theorem dL_781 : decode code 781 = .ok (.iaload, 1) := by decide +kernel
theorem dL_782 : decode code 782 = .ok (.invokevirtual 95, 3) := by decide +kernel
theorem dL_785 : decode code 785 = .ok (.if_icmp .eq 338, 3) := by decide +kernel
theorem dL_788 : decode code 788 = .ok (.iconst 0, 1) := by decide +kernel
theorem dL_789 : decode code 789 = .ok (.ireturn, 1) := by decide +kernel
theorem dL_790 : decode code 790 = .ok (.aload_n 1, 1) := by decide +kernel
theorem dL_791 : decode code 791 = .ok (.aload_n 0, 1) := by decide +kernel
theorem dL_792 : decode code 792 = .ok (.iload_n 3, 1) := by decide +kernel
theorem dL_793 : decode code 793 = .ok (.iconst 1, 1) := by decide +kernel
theorem dL_794 : decode code 794 = .ok (.iadd, 1) := by decide +kernel
theorem dL_795 : decode code 795 = .ok (.iaload, 1) := by decide +kernel
theorem dL_796 : decode code 796 = .ok (.aload_n 0, 1) := by decide +kernel
theorem dL_797 : decode code 797 = .ok (.iload_n 3, 1) := by decide +kernel
theorem dL_798 : decode code 798 = .ok (.iconst 2, 1) := by decide +kernel
theorem dL_799 : decode code 799 = .ok (.iadd, 1) := by decide +kernel
theorem dL_800 : decode code 800 = .ok (.iaload, 1) := by decide +kernel
theorem dL_801 : decode code 801 = .ok (.aload_n 0, 1) := by decide +kernel
theorem dL_802 : decode code 802 = .ok (.iload_n 3, 1) := by decide +kernel
theorem dL_803 : decode code 803 = .ok (.iconst 3, 1) := by decide +kernel
theorem dL_804 : decode code 804 = .ok (.iadd, 1) := by decide +kernel
theorem dL_805 : decode code 805 = .ok (.iaload, 1) := by decide +kernel
theorem dL_806 : decode code 806 = .ok (.aload_n 0, 1) := by decide +kernel
theorem dL_807 : decode code 807 = .ok (.iload_n 3, 1) := by decide +kernel
theorem dL_808 : decode code 808 = .ok (.iconst 4, 1) := by decide +kernel
theorem dL_809 : decode code 809 = .ok (.iadd, 1) := by decide +kernel
theorem dL_810 : decode code 810 = .ok (.iaload, 1) := by decide +kernel
theorem dL_811 : decode code 811 = .ok (.aload_n 0, 1) := by decide +kernel
theorem dL_812 : decode code 812 = .ok (.iload_n 3, 1) := by decide +kernel
theorem dL_813 : decode code 813 = .ok (.iconst 5, 1) := by decide +kernel
theorem dL_814 : decode code 814 = .ok (.iadd, 1) := by decide +kernel
theorem dL_815 : decode code 815 = .ok (.iaload, 1) := by decide +kernel
theorem dL_816 : decode code 816 = .ok (.invokevirtual 96, 3) := by decide +kernel
theorem dL_819 : decode code 819 = .ok (.aload_n 2, 1) := by decide +kernel
theorem dL_820 : decode code 820 = .ok (.aload_n 0, 1) := by decide +kernel
theorem dL_821 : decode code 821 = .ok (.iload_n 3, 1) := by decide +kernel
theorem dL_822 : decode code 822 = .ok (.iconst 1, 1) := by decide +kernel
theorem dL_823 : decode code 823 = .ok (.iadd, 1) := by decide +kernel
theorem dL_824 : decode code 824 = .ok (.iaload, 1) := by decide +kernel
theorem dL_825 : decode code 825 = .ok (.aload_n 0, 1) := by decide +kernel
theorem dL_826 : decode code 826 = .ok (.iload_n 3, 1) := by decide +kernel
theorem dL_827 : decode code 827 = .ok (.iconst 2, 1) := by decide +kernel
theorem dL_828 : decode code 828 = .ok (.iadd, 1) := by decide +kernel
theorem dL_829 : decode code 829 = .ok (.iaload, 1) := by decide +kernel
theorem dL_830 : decode code 830 = .ok (.aload_n 0, 1) := by decide +kernel
theorem dL_831 : decode code 831 = .ok (.iload_n 3, 1) := by decide +kernel
theorem dL_832 : decode code 832 = .ok (.iconst 3, 1) := by decide +kernel
theorem dL_833 : decode code 833 = .ok (.iadd, 1) := by decide +kernel
theorem dL_834 : decode code 834 = .ok (.iaload, 1) := by decide +kernel
theorem dL_835 : decode code 835 = .ok (.aload_n 0, 1) := by decide +kernel
theorem dL_836 : decode code 836 = .ok (.iload_n 3, 1) := by decide +kernel
theorem dL_837 : decode code 837 = .ok (.iconst 4, 1) := by decide +kernel
theorem dL_838 : decode code 838 = .ok (.iadd, 1) := by decide +kernel
theorem dL_839 : decode code 839 = .ok (.iaload, 1) := by decide +kernel
theorem dL_840 : decode code 840 = .ok (.aload_n 0, 1) := by decide +kernel
theorem dL_841 : decode code 841 = .ok (.iload_n 3, 1) := by decide +kernel
theorem dL_842 : decode code 842 = .ok (.iconst 5, 1) := by decide +kernel
theorem dL_843 : decode code 843 = .ok (.iadd, 1) := by decide +kernel
theorem dL_844 : decode code 844 = .ok (.iaload, 1) := by decide +kernel
theorem dL_845 : decode code 845 = .ok (.invokevirtual 99, 3) := by decide +kernel
theorem dL_848 : decode code 848 = .ok (.if_icmp .eq 275, 3) := by decide +kernel
theorem dL_851 : decode code 851 = .ok (.iconst 0, 1) := by decide +kernel
theorem dL_852 : decode code 852 = .ok (.ireturn, 1) := by decide +kernel
theorem dL_853 : decode code 853 = .ok (.aload_n 1, 1) := by decide +kernel
theorem dL_854 : decode code 854 = .ok (.aload_n 0, 1) := by decide +kernel
theorem dL_855 : decode code 855 = .ok (.iload_n 3, 1) := by decide +kernel
theorem dL_856 : decode code 856 = .ok (.iconst 1, 1) := by decide +kernel
theorem dL_857 : decode code 857 = .ok (.iadd, 1) := by decide +kernel
theorem dL_858 : decode code 858 = .ok (.iaload, 1) := by decide +kernel
theorem dL_859 : decode code 859 = .ok (.aload_n 0, 1) := by decide +kernel
theorem dL_860 : decode code 860 = .ok (.iload_n 3, 1) := by decide +kernel
theorem dL_861 : decode code 861 = .ok (.iconst 2, 1) := by decide +kernel
theorem dL_862 : decode code 862 = .ok (.iadd, 1) := by decide +kernel
theorem dL_863 : decode code 863 = .ok (.iaload, 1) := by decide +kernel
theorem dL_864 : decode code 864 = .ok (.aload_n 0, 1) := by decide +kernel
theorem dL_865 : decode code 865 = .ok (.iload_n 3, 1) := by decide +kernel
theorem dL_866 : decode code 866 = .ok (.iconst 3, 1) := by decide +kernel
theorem dL_867 : decode code 867 = .ok (.iadd, 1) := by decide +kernel
theorem dL_868 : decode code 868 = .ok (.iaload, 1) := by decide +kernel
theorem dL_869 : decode code 869 = .ok (.invokevirtual 100, 3) := by decide +kernel
theorem dL_872 : decode code 872 = .ok (.aload_n 2, 1) := by decide +kernel
theorem dL_873 : decode code 873 = .ok (.aload_n 0, 1) := by decide +kernel
theorem dL_874 : decode code 874 = .ok (.iload_n 3, 1) := by decide +kernel
theorem dL_875 : decode code 875 = .ok (.iconst 1, 1) := by decide +kernel
theorem dL_876 : decode code 876 = .ok (.iadd, 1) := by decide +kernel
theorem dL_877 : decode code 877 = .ok (.iaload, 1) := by decide +kernel
theorem dL_878 : decode code 878 = .ok (.aload_n 0, 1) := by decide +kernel
theorem dL_879 : decode code 879 = .ok (.iload_n 3, 1) := by decide +kernel
theorem dL_880 : decode code 880 = .ok (.iconst 2, 1) := by decide +kernel
theorem dL_881 : decode code 881 = .ok (.iadd, 1) := by decide +kernel
theorem dL_882 : decode code 882 = .ok (.iaload, 1) := by decide +kernel
theorem dL_883 : decode code 883 = .ok (.aload_n 0, 1) := by decide +kernel
theorem dL_884 : decode code 884 = .ok (.iload_n 3, 1) := by decide +kernel
theorem dL_885 : decode code 885 = .ok (.iconst 3, 1) := by decide +kernel
theorem dL_886 : decode code 886 = .ok (.iadd, 1) := by decide +kernel
theorem dL_887 : decode code 887 = .ok (.iaload, 1) := by decide +kernel
theorem dL_888 : decode code 888 = .ok (.invokevirtual 103, 3) := by decide +kernel
theorem dL_891 : decode code 891 = .ok (.if_icmp .eq 232, 3) := by decide +kernel
theorem dL_894 : decode code 894 = .ok (.iconst 0, 1) := by decide +kernel
theorem dL_895 : decode code 895 = .ok (.ireturn, 1) := by decide +kernel
theorem dL_896 : decode code 896 = .ok (.aload_n 1, 1) := by decide +kernel
theorem dL_897 : decode code 897 = .ok (.aload_n 0, 1) := by decide +kernel
theorem dL_898 : decode code 898 = .ok (.iload_n 3, 1) := by decide +kernel
theorem dL_899 : decode code 899 = .ok (.iconst 1, 1) := by decide +kernel
theorem dL_900 : decode code 900 = .ok (.iadd, 1) := by decide +kernel
theorem dL_901 : decode code 901 = .ok (.iaload, 1) := by decide +kernel
theorem dL_902 : decode code 902 = .ok (.aload_n 0, 1) := by decide +kernel
theorem dL_903 : decode code 903 = .ok (.iload_n 3, 1) := by decide +kernel
theorem dL_904 : decode code 904 = .ok (.iconst 2, 1) := by decide +kernel
theorem dL_905 : decode code 905 = .ok (.iadd, 1) := by decide +kernel
theorem dL_906 : decode code 906 = .ok (.iaload, 1) := by decide +kernel
theorem dL_907 : decode code 907 = .ok (.invokevirtual 104, 3) := by decide +kernel
theorem dL_910 : decode code 910 = .ok (.aload_n 2, 1) := by decide +kernel
theorem dL_911 : decode code 911 = .ok (.aload_n 0, 1) := by decide +kernel
theorem dL_912 : decode code 912 = .ok (.iload_n 3, 1) := by decide +kernel
theorem dL_913 : decode code 913 = .ok (.iconst 1, 1) := by decide +kernel
theorem dL_914 : decode code 914 = .ok (.iadd, 1) := by decide +kernel
theorem dL_915 : decode code 915 = .ok (.iaload, 1) := by decide +kernel
theorem dL_916 : decode code 916 = .ok (.aload_n 0, 1) := by decide +kernel
theorem dL_917 : decode code 917 = .ok (.iload_n 3, 1) := by decide +kernel
theorem dL_918 : decode code 918 = .ok (.iconst 2, 1) := by decide +kernel
theorem dL_919 : decode code 919 = .ok (.iadd, 1) := by decide +kernel
theorem dL_920 : decode code 920 = .ok (.iaload, 1) := by decide +kernel
theorem dL_921 : decode code 921 = .ok (.invokevirtual 107, 3) := by decide +kernel
theorem dL_924 : decode code 924 = .ok (.if_icmp .eq 199, 3) := by decide +kernel
theorem dL_927 : decode code 927 = .ok (.iconst 0, 1) := by decide +kernel
theorem dL_928 : decode code 928 = .ok (.ireturn, 1) := by decide +kernel
theorem dL_929 : decode code 929 = .ok (.aload_n 1, 1) := by decide +kernel
theorem dL_930 : decode code 930 = .ok (.aload_n 0, 1) := by decide +kernel
theorem dL_931 : decode code 931 = .ok (.iload_n 3, 1) := by decide +kernel
theorem dL_932 : decode code 932 = .ok (.iconst 1, 1) := by decide +kernel
theorem dL_933 : decode code 933 = .ok (.iadd, 1) := by decide +kernel
theorem dL_934 : decode code 934 = .ok (.iaload, 1) := by decide +kernel
theorem dL_935 : decode code 935 = .ok (.aload_n 0, 1) := by decide +kernel
theorem dL_936 : decode code 936 = .ok (.iload_n 3, 1) := by decide +kernel
theorem dL_937 : decode code 937 = .ok (.iconst 2, 1) := by decide +kernel
theorem dL_938 : decode code 938 = .ok (.iadd, 1) := by decide +kernel
theorem dL_939 : decode code 939 = .ok (.iaload, 1) := by decide +kernel
theorem dL_940 : decode code 940 = .ok (.invokevirtual 108, 3) := by decide +kernel
theorem dL_943 : decode code 943 = .ok (.aload_n 2, 1) := by decide +kernel
theorem dL_944 : decode code 944 = .ok (.aload_n 0, 1) := by decide +kernel
theorem dL_945 : decode code 945 = .ok (.iload_n 3, 1) := by decide +kernel
theorem dL_946 : decode code 946 = .ok (.iconst 1, 1) := by decide +kernel
theorem dL_947 : decode code 947 = .ok (.iadd, 1) := by decide +kernel
theorem dL_948 : decode code 948 = .ok (.iaload, 1) := by decide +kernel
theorem dL_949 : decode code 949 = .ok (.aload_n 0, 1) := by decide +kernel
theorem dL_950 : decode code 950 = .ok (.iload_n 3, 1) := by decide +kernel
theorem dL_951 : decode code 951 = .ok (.iconst 2, 1) := by decide +kernel
theorem dL_952 : decode code 952 = .ok (.iadd, 1) := by decide +kernel
theorem dL_953 : decode code 953 = .ok (.iaload, 1) := by decide +kernel
theorem dL_954 : decode code 954 = .ok (.invokevirtual 111, 3) := by decide +kernel
theorem dL_957 : decode code 957 = .ok (.if_icmp .eq 166, 3) := by decide +kernel
theorem dL_960 : decode code 960 = .ok (.iconst 0, 1) := by decide +kernel
theorem dL_961 : decode code 961 = .ok (.ireturn, 1) := by decide +kernel
theorem dL_962 : decode code 962 = .ok (.aload_n 1, 1) := by decide +kernel
theorem dL_963 : decode code 963 = .ok (.invokevirtual 112, 3) := by decide +kernel
theorem dL_966 : decode code 966 = .ok (.aload_n 2, 1) := by decide +kernel
theorem dL_967 : decode code 967 = .ok (.invokevirtual 115, 3) := by decide +kernel
theorem dL_970 : decode code 970 = .ok (.if_icmp .eq 153, 3) := by decide +kernel
theorem dL_973 : decode code 973 = .ok (.iconst 0, 1) := by decide +kernel
theorem dL_974 : decode code 974 = .ok (.ireturn, 1) := by decide +kernel
theorem dL_975 : decode code 975 = .ok (.aload_n 1, 1) := by decide +kernel
theorem dL_976 : decode code 976 = .ok (.aload_n 0, 1) := by decide +kernel
theorem dL_977 : decode code 977 = .ok (.iload_n 3, 1) := by decide +kernel
theorem dL_978 : decode code 978 = .ok (.iconst 1, 1) := by decide +kernel
theorem dL_979 : decode code 979 = .ok (.iadd, 1) := by decide +kernel
theorem dL_980 : decode code 980 = .ok (.iaload, 1) := by decide +kernel
theorem dL_981 : decode code 981 = .ok (.invokevirtual 116, 3) := by decide +kernel
theorem dL_984 : decode code 984 = .ok (.aload_n 2, 1) := by decide +kernel
theorem dL_985 : decode code 985 = .ok (.aload_n 0, 1) := by decide +kernel
theorem dL_986 : decode code 986 = .ok (.iload_n 3, 1) := by decide +kernel
theorem dL_987 : decode code 987 = .ok (.iconst 1, 1) := by decide +kernel
theorem dL_988 : decode code 988 = .ok (.iadd, 1) := by decide +kernel
theorem dL_989 : decode code 989 = .ok (.iaload, 1) := by decide +kernel
theorem dL_990 : decode code 990 = .ok (.invokevirtual 119, 3) := by decide +kernel
theorem dL_993 : decode code 993 = .ok (.if_icmp .eq 130, 3) := by decide +kernel
theorem dL_996 : decode code 996 = .ok (.iconst 0, 1) := by decide +kernel
theorem dL_997 : decode code 997 = .ok (.ireturn, 1) := by decide +kernel
theorem dL_998 : decode code 998 = .ok (.aload_n 1, 1) := by decide +kernel
theorem dL_999 : decode code 999 = .ok (.aload_n 0, 1) := by decide +kernel
theorem dL_1000 : decode code 1000 = .ok (.iload_n 3, 1) := by decide +kernel
theorem dL_1001 : decode code 1001 = .ok (.iconst 1, 1) := by decide +kernel
theorem dL_1002 : decode code 1002 = .ok (.iadd, 1) := by decide +kernel
theorem dL_1003 : decode code 1003 = .ok (.iaload, 1) := by decide +kernel
theorem dL_1004 : decode code 1004 = .ok (.aload_n 0, 1) := by decide +kernel
theorem dL_1005 : decode code 1005 = .ok (.iload_n 3, 1) := by decide +kernel
theorem dL_1006 : decode code 1006 = .ok (.iconst 2, 1) := by decide +kernel
theorem dL_1007 : decode code 1007 = .ok (.iadd, 1) := by decide +kernel
theorem dL_1008 : decode code 1008 = .ok (.iaload, 1) := by decide +kernel
theorem dL_1009 : decode code 1009 = .ok (.invokevirtual 120, 3) := by decide +kernel
theorem dL_1012 : decode code 1012 = .ok (.aload_n 2, 1) := by decide +kernel
theorem dL_1013 : decode code 1013 = .ok (.aload_n 0, 1) := by decide +kernel
theorem dL_1014 : decode code 1014 = .ok (.iload_n 3, 1) := by decide +kernel
theorem dL_1015 : decode code 1015 = .ok (.iconst 1, 1) := by decide +kernel
theorem dL_1016 : decode code 1016 = .ok (.iadd, 1) := by decide +kernel
theorem dL_1017 : decode code 1017 = .ok (.iaload, 1) := by decide +kernel
theorem dL_1018 : decode code 1018 = .ok (.aload_n 0, 1) := by decide +kernel
theorem dL_1019 : decode code 1019 = .ok (.iload_n 3, 1) := by decide +kernel
theorem dL_1020 : decode code 1020 = .ok (.iconst 2, 1) := by decide +kernel
theorem dL_1021 : decode code 1021 = .ok (.iadd, 1) := by decide +kernel
theorem dL_1022 : decode code 1022 = .ok (.iaload, 1) := by decide +kernel
theorem dL_1023 : decode code 1023 = .ok (.invokevirtual 123, 3) := by decide +kernel
theorem dL_1026 : decode code 1026 = .ok (.if_icmp .eq 97, 3) := by decide +kernel
theorem dL_1029 : decode code 1029 = .ok (.iconst 0, 1) := by decide +kernel
theorem dL_1030 : decode code 1030 = .ok (.ireturn, 1) := by decide +kernel
theorem dL_1031 : decode code 1031 = .ok (.aload_n 1, 1) := by decide +kernel
theorem dL_1032 : decode code 1032 = .ok (.aload_n 0, 1) := by decide +kernel
theorem dL_1033 : decode code 1033 = .ok (.iload_n 3, 1) := by decide +kernel
theorem dL_1034 : decode code 1034 = .ok (.iconst 1, 1) := by decide +kernel
theorem dL_1035 : decode code 1035 = .ok (.iadd, 1) := by decide +kernel
theorem dL_1036 : decode code 1036 = .ok (.iaload, 1) := by decide +kernel
theorem dL_1037 : decode code 1037 = .ok (.aload_n 0, 1) := by decide +kernel
theorem dL_1038 : decode code 1038 = .ok (.iload_n 3, 1) := by decide +kernel
theorem dL_1039 : decode code 1039 = .ok (.iconst 2, 1) := by decide +kernel
theorem dL_1040 : decode code 1040 = .ok (.iadd, 1) := by decide +kernel
theorem dL_1041 : decode code 1041 = .ok (.iaload, 1) := by decide +kernel
theorem dL_1042 : decode code 1042 = .ok (.invokevirtual 124, 3) := by decide +kernel
theorem dL_1045 : decode code 1045 = .ok (.aload_n 2, 1) := by decide +kernel
theorem dL_1046 : decode code 1046 = .ok (.aload_n 0, 1) := by decide +kernel
theorem dL_1047 : decode code 1047 = .ok (.iload_n 3, 1) := by decide +kernel
theorem dL_1048 : decode code 1048 = .ok (.iconst 1, 1) := by decide +kernel
theorem dL_1049 : decode code 1049 = .ok (.iadd, 1) := by decide +kernel
theorem dL_1050 : decode code 1050 = .ok (.iaload, 1) := by decide +kernel
theorem dL_1051 : decode code 1051 = .ok (.aload_n 0, 1) := by decide +kernel
theorem dL_1052 : decode code 1052 = .ok (.iload_n 3, 1) := by decide +kernel
theorem dL_1053 : decode code 1053 = .ok (.iconst 2, 1) := by decide +kernel
theorem dL_1054 : decode code 1054 = .ok (.iadd, 1) := by decide +kernel
theorem dL_1055 : decode code 1055 = .ok (.iaload, 1) := by decide +kernel
theorem dL_1056 : decode code 1056 = .ok (.invokevirtual 127, 3) := by decide +kernel
theorem dL_1059 : decode code 1059 = .ok (.if_icmp .eq 64, 3) := by decide +kernel
theorem dL_1062 : decode code 1062 = .ok (.iconst 0, 1) := by decide +kernel
theorem dL_1063 : decode code 1063 = .ok (.ireturn, 1) := by decide +kernel
theorem dL_1064 : decode code 1064 = .ok (.aload_n 1, 1) := by decide +kernel
theorem dL_1065 : decode code 1065 = .ok (.aload_n 0, 1) := by decide +kernel
theorem dL_1066 : decode code 1066 = .ok (.iload_n 3, 1) := by decide +kernel
theorem dL_1067 : decode code 1067 = .ok (.iconst 1, 1) := by decide +kernel
theorem dL_1068 : decode code 1068 = .ok (.iadd, 1) := by decide +kernel
theorem dL_1069 : decode code 1069 = .ok (.iaload, 1) := by decide +kernel
theorem dL_1070 : decode code 1070 = .ok (.invokevirtual 128, 3) := by decide +kernel
theorem dL_1073 : decode code 1073 = .ok (.aload_n 2, 1) := by decide +kernel
theorem dL_1074 : decode code 1074 = .ok (.aload_n 0, 1) := by decide +kernel
theorem dL_1075 : decode code 1075 = .ok (.iload_n 3, 1) := by decide +kernel
theorem dL_1076 : decode code 1076 = .ok (.iconst 1, 1) := by decide +kernel
theorem dL_1077 : decode code 1077 = .ok (.iadd, 1) := by decide +kernel
theorem dL_1078 : decode code 1078 = .ok (.iaload, 1) := by decide +kernel
theorem dL_1079 : decode code 1079 = .ok (.invokevirtual 131, 3) := by decide +kernel
theorem dL_1082 : decode code 1082 = .ok (.if_icmp .eq 41, 3) := by decide +kernel
theorem dL_1085 : decode code 1085 = .ok (.iconst 0, 1) := by decide +kernel
theorem dL_1086 : decode code 1086 = .ok (.ireturn, 1) := by decide +kernel
theorem dL_1087 : decode code 1087 = .ok (.aload_n 1, 1) := by decide +kernel
theorem dL_1088 : decode code 1088 = .ok (.aload_n 0, 1) := by decide +kernel
theorem dL_1089 : decode code 1089 = .ok (.iload_n 3, 1) := by decide +kernel
theorem dL_1090 : decode code 1090 = .ok (.iconst 1, 1) := by decide +kernel
theorem dL_1091 : decode code 1091 = .ok (.iadd, 1) := by decide +kernel
theorem dL_1092 : decode code 1092 = .ok (.iaload, 1) := by decide +kernel
theorem dL_1093 : decode code 1093 = .ok (.invokevirtual 132, 3) := by decide +kernel
theorem dL_1096 : decode code 1096 = .ok (.aload_n 2, 1) := by decide +kernel
theorem dL_1097 : decode code 1097 = .ok (.aload_n 0, 1) := by decide +kernel
theorem dL_1098 : decode code 1098 = .ok (.iload_n 3, 1) := by decide +kernel
theorem dL_1099 : decode code 1099 = .ok (.iconst 1, 1) := by decide +kernel
theorem dL_1100 : decode code 1100 = .ok (.iadd, 1) := by decide +kernel
theorem dL_1101 : decode code 1101 = .ok (.iaload, 1) := by decide +kernel
theorem dL_1102 : decode code 1102 = .ok (.invokevirtual 135, 3) := by decide +kernel
theorem dL_1105 : decode code 1105 = .ok (.if_icmp .eq 18, 3) := by decide +kernel
theorem dL_1108 : decode code 1108 = .ok (.iconst 0, 1) := by decide +kernel
theorem dL_1109 : decode code 1109 = .ok (.ireturn, 1) := by decide +kernel
theorem dL_1110 : decode code 1110 = .ok (.aload_n 1, 1) := by decide +kernel
theorem dL_1111 : decode code 1111 = .ok (.invokevirtual 136, 3) := by decide +kernel
theorem dL_1114 : decode code 1114 = .ok (.aload_n 2, 1) := by decide +kernel
theorem dL_1115 : decode code 1115 = .ok (.invokevirtual 139, 3) := by decide +kernel
theorem dL_1118 : decode code 1118 = .ok (.if_icmp .eq 5, 3) := by decide +kernel
theorem dL_1121 : decode code 1121 = .ok (.iconst 0, 1) := by decide +kernel
theorem dL_1122 : decode code 1122 = .ok (.ireturn, 1) := by decide +kernel
theorem dL_1123 : decode code 1123 = .ok (.iinc 3 6, 3) := by decide +kernel
theorem dL_1126 : decode code 1126 = .ok (.goto (-1108), 3) := by decide +kernel
theorem dL_1129 : decode code 1129 = .ok (.iconst 1, 1) := by decide +kernel
theorem dL_1130 : decode code 1130 = .ok (.ireturn, 1) := by decide +kernel
