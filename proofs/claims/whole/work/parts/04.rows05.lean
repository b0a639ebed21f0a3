theorem dX6_isByte_11 : decode cX6_isByte 11 = .ok (.iconst 1, 1) := by decide +kernel
theorem dX6_isByte_12 : decode cX6_isByte 12 = .ok (.goto 4, 3) := by decide +kernel
theorem dX6_isByte_15 : decode cX6_isByte 15 = .ok (.iconst 0, 1) := by decide +kernel
theorem dX6_isByte_16 : decode cX6_isByte 16 = .ok (.ireturn, 1) := by decide +kernel
theorem dX7_init_0 : decode cX7_init 0 = .ok (.aload_n 0, 1) := by decide +kernel
theorem dX7_init_1 : decode cX7_init 1 = .ok (.invokespecial 1, 3) := by decide +kernel
theorem dX7_init_4 : decode cX7_init 4 = .ok (.aload_n 0, 1) := by decide +kernel
theorem dX7_init_5 : decode cX7_init 5 = .ok (.sipush 4096, 3) := by decide +kernel
theorem dX7_init_8 : decode cX7_init 8 = .ok (.newarray .int, 2) := by decide +kernel
theorem dX7_init_10 : decode cX7_init 10 = .ok (.putfield 7, 3) := by decide +kernel
theorem dX7_init_13 : decode cX7_init 13 = .ok (.aload_n 0, 1) := by decide +kernel
theorem dX7_init_14 : decode cX7_init 14 = .ok (.sipush 4096, 3) := by decide +kernel
theorem dX7_init_17 : decode cX7_init 17 = .ok (.newarray .int, 2) := by decide +kernel
theorem dX7_init_19 : decode cX7_init 19 = .ok (.putfield 13, 3) := by decide +kernel
theorem dX7_init_22 : decode cX7_init 22 = .ok (.aload_n 0, 1) := by decide +kernel
theorem dX7_init_23 : decode cX7_init 23 = .ok (.bipush 8, 2) := by decide +kernel
theorem dX7_init_25 : decode cX7_init 25 = .ok (.newarray .int, 2) := by decide +kernel
theorem dX7_init_27 : decode cX7_init 27 = .ok (.putfield 16, 3) := by decide +kernel
theorem dX7_init_30 : decode cX7_init 30 = .ok (.aload_n 0, 1) := by decide +kernel
theorem dX7_init_31 : decode cX7_init 31 = .ok (.iconst (-1), 1) := by decide +kernel
theorem dX7_init_32 : decode cX7_init 32 = .ok (.putfield 19, 3) := by decide +kernel
theorem dX7_init_35 : decode cX7_init 35 = .ok (.aload_n 0, 1) := by decide +kernel
theorem dX7_init_36 : decode cX7_init 36 = .ok (.bipush 64, 2) := by decide +kernel
theorem dX7_init_38 : decode cX7_init 38 = .ok (.newarray .int, 2) := by decide +kernel
theorem dX7_init_40 : decode cX7_init 40 = .ok (.putfield 23, 3) := by decide +kernel
theorem dX7_init_43 : decode cX7_init 43 = .ok (.aload_n 0, 1) := by decide +kernel
theorem dX7_init_44 : decode cX7_init 44 = .ok (.sipush 256, 3) := by decide +kernel
theorem dX7_init_47 : decode cX7_init 47 = .ok (.newarray .int, 2) := by decide +kernel
theorem dX7_init_49 : decode cX7_init 49 = .ok (.putfield 26, 3) := by decide +kernel
theorem dX7_init_52 : decode cX7_init 52 = .ok (.return_, 1) := by decide +kernel
theorem dX7_thrown_0 : decode cX7_thrown 0 = .ok (.aload_n 0, 1) := by decide +kernel
theorem dX7_thrown_1 : decode cX7_thrown 1 = .ok (.getfield 29, 3) := by decide +kernel
theorem dX7_thrown_4 : decode cX7_thrown 4 = .ok (.ireturn, 1) := by decide +kernel
theorem dX7_noByte_0 : decode cX7_noByte 0 = .ok (.iload_n 0, 1) := by decide +kernel
theorem dX7_noByte_1 : decode cX7_noByte 1 = .ok (.ifCond .lt 10, 3) := by decide +kernel
theorem dX7_noByte_4 : decode cX7_noByte 4 = .ok (.iload_n 0, 1) := by decide +kernel
theorem dX7_noByte_5 : decode cX7_noByte 5 = .ok (.sipush 255, 3) := by decide +kernel
theorem dX7_noByte_8 : decode cX7_noByte 8 = .ok (.if_icmp .le 7, 3) := by decide +kernel
theorem dX7_noByte_11 : decode cX7_noByte 11 = .ok (.iconst 1, 1) := by decide +kernel
theorem dX7_noByte_12 : decode cX7_noByte 12 = .ok (.goto 4, 3) := by decide +kernel
theorem dX7_noByte_15 : decode cX7_noByte 15 = .ok (.iconst 0, 1) := by decide +kernel
theorem dX7_noByte_16 : decode cX7_noByte 16 = .ok (.ireturn, 1) := by decide +kernel
theorem dX7_noPlace_0 : decode cX7_noPlace 0 = .ok (.iload_n 0, 1) := by decide +kernel
theorem dX7_noPlace_1 : decode cX7_noPlace 1 = .ok (.ifCond .lt 10, 3) := by decide +kernel
theorem dX7_noPlace_4 : decode cX7_noPlace 4 = .ok (.iload_n 0, 1) := by decide +kernel
theorem dX7_noPlace_5 : decode cX7_noPlace 5 = .ok (.sipush 4096, 3) := by decide +kernel
theorem dX7_noPlace_8 : decode cX7_noPlace 8 = .ok (.if_icmp .lt 7, 3) := by decide +kernel
theorem dX7_noPlace_11 : decode cX7_noPlace 11 = .ok (.iconst 1, 1) := by decide +kernel
theorem dX7_noPlace_12 : decode cX7_noPlace 12 = .ok (.goto 4, 3) := by decide +kernel
theorem dX7_noPlace_15 : decode cX7_noPlace 15 = .ok (.iconst 0, 1) := by decide +kernel
theorem dX7_noPlace_16 : decode cX7_noPlace 16 = .ok (.ireturn, 1) := by decide +kernel
set_option maxRecDepth 20000 in
theorem ggX7_write_X7_noPlace : GoodIn wsX7_write wsX7_noPlace := goodIn_r _ [6] (by decide +kernel) (by decide +kernel)
set_option maxRecDepth 20000 in
theorem gX7_write_X7_noPlace : GoodIn wsX7_write (va_wsS RX7 32 yX7_noPlace wsX7_noPlace) := goodIn_app (goodIn_of _ (by decide +kernel)) ggX7_write_X7_noPlace
set_option maxRecDepth 20000 in
theorem ggX7_write_X7_noByte : GoodIn wsX7_write wsX7_noByte := goodIn_r _ [9] (by decide +kernel) (by decide +kernel)
set_option maxRecDepth 20000 in
theorem gX7_write_X7_noByte : GoodIn wsX7_write (va_wsS RX7 36 yX7_noByte wsX7_noByte) := goodIn_app (goodIn_of _ (by decide +kernel)) ggX7_write_X7_noByte
theorem dX7_write_0 : decode cX7_write 0 = .ok (.aload_n 0, 1) := by decide +kernel
theorem dX7_write_1 : decode cX7_write 1 = .ok (.iload_n 1, 1) := by decide +kernel
theorem dX7_write_2 : decode cX7_write 2 = .ok (.invokestatic 32, 3) := by decide +kernel
theorem dX7_write_5 : decode cX7_write 5 = .ok (.ifCond .ne 10, 3) := by decide +kernel
theorem dX7_write_8 : decode cX7_write 8 = .ok (.iload_n 2, 1) := by decide +kernel
theorem dX7_write_9 : decode cX7_write 9 = .ok (.invokestatic 36, 3) := by decide +kernel
theorem dX7_write_12 : decode cX7_write 12 = .ok (.ifCond .eq 7, 3) := by decide +kernel
theorem dX7_write_15 : decode cX7_write 15 = .ok (.iconst 1, 1) := by decide +kernel
theorem dX7_write_16 : decode cX7_write 16 = .ok (.goto 4, 3) := by decide +kernel
theorem dX7_write_19 : decode cX7_write 19 = .ok (.iconst 0, 1) := by decide +kernel
theorem dX7_write_20 : decode cX7_write 20 = .ok (.putfield 29, 3) := by decide +kernel
theorem dX7_write_23 : decode cX7_write 23 = .ok (.aload_n 0, 1) := by decide +kernel
theorem dX7_write_24 : decode cX7_write 24 = .ok (.getfield 29, 3) := by decide +kernel
theorem dX7_write_27 : decode cX7_write 27 = .ok (.ifCond .le 5, 3) := by decide +kernel
theorem dX7_write_30 : decode cX7_write 30 = .ok (.iconst 0, 1) := by decide +kernel
theorem dX7_write_31 : decode cX7_write 31 = .ok (.ireturn, 1) := by decide +kernel
theorem dX7_write_32 : decode cX7_write 32 = .ok (.aload_n 0, 1) := by decide +kernel
theorem dX7_write_33 : decode cX7_write 33 = .ok (.getfield 7, 3) := by decide +kernel
theorem dX7_write_36 : decode cX7_write 36 = .ok (.iload_n 1, 1) := by decide +kernel
theorem dX7_write_37 : decode cX7_write 37 = .ok (.iaload, 1) := by decide +kernel
theorem dX7_write_38 : decode cX7_write 38 = .ok (.istore_n 3, 1) := by decide +kernel
theorem dX7_write_39 : decode cX7_write 39 = .ok (.aload_n 0, 1) := by decide +kernel
theorem dX7_write_40 : decode cX7_write 40 = .ok (.getfield 7, 3) := by decide +kernel
theorem dX7_write_43 : decode cX7_write 43 = .ok (.iload_n 1, 1) := by decide +kernel
theorem dX7_write_44 : decode cX7_write 44 = .ok (.iload_n 2, 1) := by decide +kernel
theorem dX7_write_45 : decode cX7_write 45 = .ok (.iastore, 1) := by decide +kernel
theorem dX7_write_46 : decode cX7_write 46 = .ok (.iload_n 3, 1) := by decide +kernel
theorem dX7_write_47 : decode cX7_write 47 = .ok (.ireturn, 1) := by decide +kernel
set_option maxRecDepth 20000 in
theorem ggX7_read_X7_noPlace : GoodIn wsX7_read wsX7_noPlace := goodIn_r _ [6] (by decide +kernel) (by decide +kernel)
set_option maxRecDepth 20000 in
theorem gX7_read_X7_noPlace : GoodIn wsX7_read (va_wsS RX7 32 yX7_noPlace wsX7_noPlace) := goodIn_app (goodIn_of _ (by decide +kernel)) ggX7_read_X7_noPlace
theorem dX7_read_0 : decode cX7_read 0 = .ok (.aload_n 0, 1) := by decide +kernel
theorem dX7_read_1 : decode cX7_read 1 = .ok (.iload_n 1, 1) := by decide +kernel
theorem dX7_read_2 : decode cX7_read 2 = .ok (.invokestatic 32, 3) := by decide +kernel
theorem dX7_read_5 : decode cX7_read 5 = .ok (.ifCond .eq 7, 3) := by decide +kernel
theorem dX7_read_8 : decode cX7_read 8 = .ok (.iconst 1, 1) := by decide +kernel
theorem dX7_read_9 : decode cX7_read 9 = .ok (.goto 4, 3) := by decide +kernel
theorem dX7_read_12 : decode cX7_read 12 = .ok (.iconst 0, 1) := by decide +kernel
theorem dX7_read_13 : decode cX7_read 13 = .ok (.putfield 29, 3) := by decide +kernel
theorem dX7_read_16 : decode cX7_read 16 = .ok (.aload_n 0, 1) := by decide +kernel
theorem dX7_read_17 : decode cX7_read 17 = .ok (.getfield 29, 3) := by decide +kernel
theorem dX7_read_20 : decode cX7_read 20 = .ok (.ifCond .le 7, 3) := by decide +kernel
theorem dX7_read_23 : decode cX7_read 23 = .ok (.iconst 0, 1) := by decide +kernel
theorem dX7_read_24 : decode cX7_read 24 = .ok (.goto 9, 3) := by decide +kernel
theorem dX7_read_27 : decode cX7_read 27 = .ok (.aload_n 0, 1) := by decide +kernel
theorem dX7_read_28 : decode cX7_read 28 = .ok (.getfield 7, 3) := by decide +kernel
theorem dX7_read_31 : decode cX7_read 31 = .ok (.iload_n 1, 1) := by decide +kernel
theorem dX7_read_32 : decode cX7_read 32 = .ok (.iaload, 1) := by decide +kernel
theorem dX7_read_33 : decode cX7_read 33 = .ok (.ireturn, 1) := by decide +kernel
set_option maxRecDepth 20000 in
theorem ggX7_writeDisk_X7_noPlace : GoodIn wsX7_writeDisk wsX7_noPlace := goodIn_r _ [6] (by decide +kernel) (by decide +kernel)
set_option maxRecDepth 20000 in
theorem gX7_writeDisk_X7_noPlace : GoodIn wsX7_writeDisk (va_wsS RX7 32 yX7_noPlace wsX7_noPlace) := goodIn_app (goodIn_of _ (by decide +kernel)) ggX7_writeDisk_X7_noPlace
set_option maxRecDepth 20000 in
theorem ggX7_writeDisk_X7_noByte : GoodIn wsX7_writeDisk wsX7_noByte := goodIn_r _ [9] (by decide +kernel) (by decide +kernel)
set_option maxRecDepth 20000 in
theorem gX7_writeDisk_X7_noByte : GoodIn wsX7_writeDisk (va_wsS RX7 36 yX7_noByte wsX7_noByte) := goodIn_app (goodIn_of _ (by decide +kernel)) ggX7_writeDisk_X7_noByte
theorem dX7_writeDisk_0 : decode cX7_writeDisk 0 = .ok (.aload_n 0, 1) := by decide +kernel
theorem dX7_writeDisk_1 : decode cX7_writeDisk 1 = .ok (.iload_n 1, 1) := by decide +kernel
theorem dX7_writeDisk_2 : decode cX7_writeDisk 2 = .ok (.invokestatic 32, 3) := by decide +kernel
theorem dX7_writeDisk_5 : decode cX7_writeDisk 5 = .ok (.ifCond .ne 10, 3) := by decide +kernel
theorem dX7_writeDisk_8 : decode cX7_writeDisk 8 = .ok (.iload_n 2, 1) := by decide +kernel
theorem dX7_writeDisk_9 : decode cX7_writeDisk 9 = .ok (.invokestatic 36, 3) := by decide +kernel
theorem dX7_writeDisk_12 : decode cX7_writeDisk 12 = .ok (.ifCond .eq 7, 3) := by decide +kernel
theorem dX7_writeDisk_15 : decode cX7_writeDisk 15 = .ok (.iconst 1, 1) := by decide +kernel
theorem dX7_writeDisk_16 : decode cX7_writeDisk 16 = .ok (.goto 4, 3) := by decide +kernel
theorem dX7_writeDisk_19 : decode cX7_writeDisk 19 = .ok (.iconst 0, 1) := by decide +kernel
theorem dX7_writeDisk_20 : decode cX7_writeDisk 20 = .ok (.putfield 29, 3) := by decide +kernel
theorem dX7_writeDisk_23 : decode cX7_writeDisk 23 = .ok (.aload_n 0, 1) := by decide +kernel
theorem dX7_writeDisk_24 : decode cX7_writeDisk 24 = .ok (.getfield 29, 3) := by decide +kernel
theorem dX7_writeDisk_27 : decode cX7_writeDisk 27 = .ok (.ifCond .le 5, 3) := by decide +kernel
theorem dX7_writeDisk_30 : decode cX7_writeDisk 30 = .ok (.iconst 0, 1) := by decide +kernel
theorem dX7_writeDisk_31 : decode cX7_writeDisk 31 = .ok (.ireturn, 1) := by decide +kernel
theorem dX7_writeDisk_32 : decode cX7_writeDisk 32 = .ok (.aload_n 0, 1) := by decide +kernel
theorem dX7_writeDisk_33 : decode cX7_writeDisk 33 = .ok (.getfield 13, 3) := by decide +kernel
theorem dX7_writeDisk_36 : decode cX7_writeDisk 36 = .ok (.iload_n 1, 1) := by decide +kernel
theorem dX7_writeDisk_37 : decode cX7_writeDisk 37 = .ok (.iaload, 1) := by decide +kernel
theorem dX7_writeDisk_38 : decode cX7_writeDisk 38 = .ok (.istore_n 3, 1) := by decide +kernel
theorem dX7_writeDisk_39 : decode cX7_writeDisk 39 = .ok (.aload_n 0, 1) := by decide +kernel
theorem dX7_writeDisk_40 : decode cX7_writeDisk 40 = .ok (.getfield 13, 3) := by decide +kernel
theorem dX7_writeDisk_43 : decode cX7_writeDisk 43 = .ok (.iload_n 1, 1) := by decide +kernel
theorem dX7_writeDisk_44 : decode cX7_writeDisk 44 = .ok (.iload_n 2, 1) := by decide +kernel
theorem dX7_writeDisk_45 : decode cX7_writeDisk 45 = .ok (.iastore, 1) := by decide +kernel
theorem dX7_writeDisk_46 : decode cX7_writeDisk 46 = .ok (.iload_n 3, 1) := by decide +kernel
theorem dX7_writeDisk_47 : decode cX7_writeDisk 47 = .ok (.ireturn, 1) := by decide +kernel
set_option maxRecDepth 20000 in
theorem ggX7_readDisk_X7_noPlace : GoodIn wsX7_readDisk wsX7_noPlace := goodIn_r _ [6] (by decide +kernel) (by decide +kernel)
set_option maxRecDepth 20000 in
theorem gX7_readDisk_X7_noPlace : GoodIn wsX7_readDisk (va_wsS RX7 32 yX7_noPlace wsX7_noPlace) := goodIn_app (goodIn_of _ (by decide +kernel)) ggX7_readDisk_X7_noPlace
theorem dX7_readDisk_0 : decode cX7_readDisk 0 = .ok (.aload_n 0, 1) := by decide +kernel
theorem dX7_readDisk_1 : decode cX7_readDisk 1 = .ok (.iload_n 1, 1) := by decide +kernel
theorem dX7_readDisk_2 : decode cX7_readDisk 2 = .ok (.invokestatic 32, 3) := by decide +kernel
theorem dX7_readDisk_5 : decode cX7_readDisk 5 = .ok (.ifCond .eq 7, 3) := by decide +kernel
theorem dX7_readDisk_8 : decode cX7_readDisk 8 = .ok (.iconst 1, 1) := by decide +kernel
theorem dX7_readDisk_9 : decode cX7_readDisk 9 = .ok (.goto 4, 3) := by decide +kernel
theorem dX7_readDisk_12 : decode cX7_readDisk 12 = .ok (.iconst 0, 1) := by decide +kernel
theorem dX7_readDisk_13 : decode cX7_readDisk 13 = .ok (.putfield 29, 3) := by decide +kernel
theorem dX7_readDisk_16 : decode cX7_readDisk 16 = .ok (.aload_n 0, 1) := by decide +kernel
theorem dX7_readDisk_17 : decode cX7_readDisk 17 = .ok (.getfield 29, 3) := by decide +kernel
theorem dX7_readDisk_20 : decode cX7_readDisk 20 = .ok (.ifCond .le 7, 3) := by decide +kernel
theorem dX7_readDisk_23 : decode cX7_readDisk 23 = .ok (.iconst 0, 1) := by decide +kernel
theorem dX7_readDisk_24 : decode cX7_readDisk 24 = .ok (.goto 9, 3) := by decide +kernel
theorem dX7_readDisk_27 : decode cX7_readDisk 27 = .ok (.aload_n 0, 1) := by decide +kernel
theorem dX7_readDisk_28 : decode cX7_readDisk 28 = .ok (.getfield 13, 3) := by decide +kernel
theorem dX7_readDisk_31 : decode cX7_readDisk 31 = .ok (.iload_n 1, 1) := by decide +kernel
theorem dX7_readDisk_32 : decode cX7_readDisk 32 = .ok (.iaload, 1) := by decide +kernel
theorem dX7_readDisk_33 : decode cX7_readDisk 33 = .ok (.ireturn, 1) := by decide +kernel
theorem dX7_sum_0 : decode cX7_sum 0 = .ok (.aload_n 0, 1) := by decide +kernel
theorem dX7_sum_1 : decode cX7_sum 1 = .ok (.iconst 0, 1) := by decide +kernel
theorem dX7_sum_2 : decode cX7_sum 2 = .ok (.putfield 29, 3) := by decide +kernel
theorem dX7_sum_5 : decode cX7_sum 5 = .ok (.iconst 0, 1) := by decide +kernel
theorem dX7_sum_6 : decode cX7_sum 6 = .ok (.istore_n 1, 1) := by decide +kernel
theorem dX7_sum_7 : decode cX7_sum 7 = .ok (.iconst 0, 1) := by decide +kernel
theorem dX7_sum_8 : decode cX7_sum 8 = .ok (.istore_n 2, 1) := by decide +kernel
theorem dX7_sum_9 : decode cX7_sum 9 = .ok (.iload_n 2, 1) := by decide +kernel
theorem dX7_sum_10 : decode cX7_sum 10 = .ok (.sipush 4096, 3) := by decide +kernel
theorem dX7_sum_13 : decode cX7_sum 13 = .ok (.if_icmp .ge 22, 3) := by decide +kernel
theorem dX7_sum_16 : decode cX7_sum 16 = .ok (.iload_n 1, 1) := by decide +kernel
theorem dX7_sum_17 : decode cX7_sum 17 = .ok (.aload_n 0, 1) := by decide +kernel
theorem dX7_sum_18 : decode cX7_sum 18 = .ok (.getfield 7, 3) := by decide +kernel
theorem dX7_sum_21 : decode cX7_sum 21 = .ok (.iload_n 2, 1) := by decide +kernel
theorem dX7_sum_22 : decode cX7_sum 22 = .ok (.iaload, 1) := by decide +kernel
theorem dX7_sum_23 : decode cX7_sum 23 = .ok (.iload_n 2, 1) := by decide +kernel
theorem dX7_sum_24 : decode cX7_sum 24 = .ok (.iconst 1, 1) := by decide +kernel
theorem dX7_sum_25 : decode cX7_sum 25 = .ok (.iadd, 1) := by decide +kernel
theorem dX7_sum_26 : decode cX7_sum 26 = .ok (.imul, 1) := by decide +kernel
theorem dX7_sum_27 : decode cX7_sum 27 = .ok (.iadd, 1) := by decide +kernel
theorem dX7_sum_28 : decode cX7_sum 28 = .ok (.istore_n 1, 1) := by decide +kernel
theorem dX7_sum_29 : decode cX7_sum 29 = .ok (.iinc 2 1, 3) := by decide +kernel
theorem dX7_sum_32 : decode cX7_sum 32 = .ok (.goto (-23), 3) := by decide +kernel
theorem dX7_sum_35 : decode cX7_sum 35 = .ok (.iload_n 1, 1) := by decide +kernel
theorem dX7_sum_36 : decode cX7_sum 36 = .ok (.ireturn, 1) := by decide +kernel
theorem dX7_get_0 : decode cX7_get 0 = .ok (.aload_n 0, 1) := by decide +kernel
theorem dX7_get_1 : decode cX7_get 1 = .ok (.getfield 7, 3) := by decide +kernel
theorem dX7_get_4 : decode cX7_get 4 = .ok (.iload_n 1, 1) := by decide +kernel
theorem dX7_get_5 : decode cX7_get 5 = .ok (.sipush 4095, 3) := by decide +kernel
theorem dX7_get_8 : decode cX7_get 8 = .ok (.iand, 1) := by decide +kernel
theorem dX7_get_9 : decode cX7_get 9 = .ok (.iaload, 1) := by decide +kernel
theorem dX7_get_10 : decode cX7_get 10 = .ok (.ireturn, 1) := by decide +kernel
theorem dX7_set_0 : decode cX7_set 0 = .ok (.aload_n 0, 1) := by decide +kernel
theorem dX7_set_1 : decode cX7_set 1 = .ok (.getfield 7, 3) := by decide +kernel
theorem dX7_set_4 : decode cX7_set 4 = .ok (.iload_n 1, 1) := by decide +kernel
theorem dX7_set_5 : decode cX7_set 5 = .ok (.sipush 4095, 3) := by decide +kernel
theorem dX7_set_8 : decode cX7_set 8 = .ok (.iand, 1) := by decide +kernel
theorem dX7_set_9 : decode cX7_set 9 = .ok (.iload_n 2, 1) := by decide +kernel
theorem dX7_set_10 : decode cX7_set 10 = .ok (.sipush 255, 3) := by decide +kernel
theorem dX7_set_13 : decode cX7_set 13 = .ok (.iand, 1) := by decide +kernel
theorem dX7_set_14 : decode cX7_set 14 = .ok (.iastore, 1) := by decide +kernel
theorem dX7_set_15 : decode cX7_set 15 = .ok (.return_, 1) := by decide +kernel
set_option maxRecDepth 20000 in
theorem ggX7_getWord_X7_get : GoodIn wsX7_getWord wsX7_get := goodIn_r _ [5, 6, 7, 8, 9, 10, 11, 12, 13, 14, 15, 16, 17, 18, 19, 20, 21, 22, 23, 24, 25, 26, 27, 28, 29, 30, 31, 32, 33, 34, 35, 36] (by decide +kernel) (by decide +kernel)
set_option maxRecDepth 20000 in
theorem gX7_getWord_X7_get : GoodIn wsX7_getWord (wsV RX7 39 RX7 yX7_get wsX7_get) := goodIn_app (goodIn_of _ (by decide +kernel)) ggX7_getWord_X7_get
theorem dX7_getWord_0 : decode cX7_getWord 0 = .ok (.aload_n 0, 1) := by decide +kernel
theorem dX7_getWord_1 : decode cX7_getWord 1 = .ok (.iload_n 1, 1) := by decide +kernel
theorem dX7_getWord_2 : decode cX7_getWord 2 = .ok (.invokevirtual 39, 3) := by decide +kernel
theorem dX7_getWord_5 : decode cX7_getWord 5 = .ok (.aload_n 0, 1) := by decide +kernel
theorem dX7_getWord_6 : decode cX7_getWord 6 = .ok (.iload_n 1, 1) := by decide +kernel
theorem dX7_getWord_7 : decode cX7_getWord 7 = .ok (.iconst 1, 1) := by decide +kernel
theorem dX7_getWord_8 : decode cX7_getWord 8 = .ok (.iadd, 1) := by decide +kernel
theorem dX7_getWord_9 : decode cX7_getWord 9 = .ok (.invokevirtual 39, 3) := by decide +kernel
theorem dX7_getWord_12 : decode cX7_getWord 12 = .ok (.bipush 8, 2) := by decide +kernel
theorem dX7_getWord_14 : decode cX7_getWord 14 = .ok (.ishl, 1) := by decide +kernel
theorem dX7_getWord_15 : decode cX7_getWord 15 = .ok (.ior, 1) := by decide +kernel
theorem dX7_getWord_16 : decode cX7_getWord 16 = .ok (.ireturn, 1) := by decide +kernel
set_option maxRecDepth 20000 in
theorem ggX7_setWord_X7_set : GoodIn wsX7_setWord wsX7_set := goodIn_r _ [5, 6, 7, 8, 9, 10, 11, 12, 13, 14, 15, 16, 17, 18, 19, 20, 21, 22, 23, 24, 25, 26, 27, 28, 29, 30, 31, 32, 33, 34, 35, 36] (by decide +kernel) (by decide +kernel)
set_option maxRecDepth 20000 in
theorem gX7_setWord_X7_set : GoodIn wsX7_setWord (wsV RX7 43 RX7 yX7_set wsX7_set) := goodIn_app (goodIn_of _ (by decide +kernel)) ggX7_setWord_X7_set
theorem dX7_setWord_0 : decode cX7_setWord 0 = .ok (.aload_n 0, 1) := by decide +kernel
theorem dX7_setWord_1 : decode cX7_setWord 1 = .ok (.iload_n 1, 1) := by decide +kernel
theorem dX7_setWord_2 : decode cX7_setWord 2 = .ok (.iload_n 2, 1) := by decide +kernel
theorem dX7_setWord_3 : decode cX7_setWord 3 = .ok (.invokevirtual 43, 3) := by decide +kernel
theorem dX7_setWord_6 : decode cX7_setWord 6 = .ok (.aload_n 0, 1) := by decide +kernel
theorem dX7_setWord_7 : decode cX7_setWord 7 = .ok (.iload_n 1, 1) := by decide +kernel
theorem dX7_setWord_8 : decode cX7_setWord 8 = .ok (.iconst 1, 1) := by decide +kernel
theorem dX7_setWord_9 : decode cX7_setWord 9 = .ok (.iadd, 1) := by decide +kernel
theorem dX7_setWord_10 : decode cX7_setWord 10 = .ok (.iload_n 2, 1) := by decide +kernel
theorem dX7_setWord_11 : decode cX7_setWord 11 = .ok (.bipush 8, 2) := by decide +kernel
theorem dX7_setWord_13 : decode cX7_setWord 13 = .ok (.ishr, 1) := by decide +kernel
theorem dX7_setWord_14 : decode cX7_setWord 14 = .ok (.invokevirtual 43, 3) := by decide +kernel
theorem dX7_setWord_17 : decode cX7_setWord 17 = .ok (.return_, 1) := by decide +kernel
set_option maxRecDepth 20000 in
theorem ggX7_next_X7_get : GoodIn wsX7_next wsX7_get := goodIn_r _ [7, 8, 9, 10, 11, 12, 13, 14, 15, 16, 17, 18, 19, 20, 21, 22, 23, 24, 25, 26, 27, 28, 29, 30, 31, 32, 33, 34, 35, 36, 37, 38] (by decide +kernel) (by decide +kernel)
set_option maxRecDepth 20000 in
theorem gX7_next_X7_get : GoodIn wsX7_next (wsV RX7 39 RX7 yX7_get wsX7_get) := goodIn_app (goodIn_of _ (by decide +kernel)) ggX7_next_X7_get
theorem dX7_next_0 : decode cX7_next 0 = .ok (.aload_n 0, 1) := by decide +kernel
theorem dX7_next_1 : decode cX7_next 1 = .ok (.aload_n 0, 1) := by decide +kernel
theorem dX7_next_2 : decode cX7_next 2 = .ok (.getfield 47, 3) := by decide +kernel
theorem dX7_next_5 : decode cX7_next 5 = .ok (.invokevirtual 39, 3) := by decide +kernel
theorem dX7_next_8 : decode cX7_next 8 = .ok (.istore_n 1, 1) := by decide +kernel
theorem dX7_next_9 : decode cX7_next 9 = .ok (.aload_n 0, 1) := by decide +kernel
theorem dX7_next_10 : decode cX7_next 10 = .ok (.aload_n 0, 1) := by decide +kernel
theorem dX7_next_11 : decode cX7_next 11 = .ok (.getfield 47, 3) := by decide +kernel
theorem dX7_next_14 : decode cX7_next 14 = .ok (.iconst 1, 1) := by decide +kernel
theorem dX7_next_15 : decode cX7_next 15 = .ok (.iadd, 1) := by decide +kernel
theorem dX7_next_16 : decode cX7_next 16 = .ok (.ldc 50, 2) := by decide +kernel
theorem dX7_next_18 : decode cX7_next 18 = .ok (.iand, 1) := by decide +kernel
theorem dX7_next_19 : decode cX7_next 19 = .ok (.putfield 47, 3) := by decide +kernel
theorem dX7_next_22 : decode cX7_next 22 = .ok (.iload_n 1, 1) := by decide +kernel
theorem dX7_next_23 : decode cX7_next 23 = .ok (.ireturn, 1) := by decide +kernel
set_option maxRecDepth 20000 in
theorem ggX7_nextWord_X7_next : GoodIn wsX7_nextWord wsX7_next := goodIn_r _ [5, 6, 7, 8, 9, 10, 4, 11, 12, 13, 14, 15, 16, 17, 18, 19, 20, 21, 22, 23, 24, 25, 26, 27, 28, 29, 30, 31, 32, 33, 34, 35, 36, 37, 38, 39, 40, 41, 42] (by decide +kernel) (by decide +kernel)
set_option maxRecDepth 20000 in
theorem gX7_nextWord_X7_next : GoodIn wsX7_nextWord (wsV RX7 51 RX7 yX7_next wsX7_next) := goodIn_app (goodIn_of _ (by decide +kernel)) ggX7_nextWord_X7_next
theorem dX7_nextWord_0 : decode cX7_nextWord 0 = .ok (.aload_n 0, 1) := by decide +kernel
theorem dX7_nextWord_1 : decode cX7_nextWord 1 = .ok (.invokevirtual 51, 3) := by decide +kernel
theorem dX7_nextWord_4 : decode cX7_nextWord 4 = .ok (.istore_n 1, 1) := by decide +kernel
theorem dX7_nextWord_5 : decode cX7_nextWord 5 = .ok (.iload_n 1, 1) := by decide +kernel
theorem dX7_nextWord_6 : decode cX7_nextWord 6 = .ok (.aload_n 0, 1) := by decide +kernel
theorem dX7_nextWord_7 : decode cX7_nextWord 7 = .ok (.invokevirtual 51, 3) := by decide +kernel
theorem dX7_nextWord_10 : decode cX7_nextWord 10 = .ok (.bipush 8, 2) := by decide +kernel
theorem dX7_nextWord_12 : decode cX7_nextWord 12 = .ok (.ishl, 1) := by decide +kernel
theorem dX7_nextWord_13 : decode cX7_nextWord 13 = .ok (.ior, 1) := by decide +kernel
theorem dX7_nextWord_14 : decode cX7_nextWord 14 = .ok (.ireturn, 1) := by decide +kernel
set_option maxRecDepth 20000 in
theorem ggX7_push_X7_setWord : GoodIn wsX7_push wsX7_setWord := goodIn_r _ [7, 8, 9, 10, 6, 11, 12, 13, 14, 15, 16, 17, 18, 19, 20, 21, 22, 23, 24, 25, 26, 27, 28, 29, 30, 31, 32, 33, 34, 35, 36, 37, 38, 39, 40, 41, 42] (by decide +kernel) (by decide +kernel)
set_option maxRecDepth 20000 in
theorem gX7_push_X7_setWord : GoodIn wsX7_push (wsV RX7 58 RX7 yX7_setWord wsX7_setWord) := goodIn_app (goodIn_of _ (by decide +kernel)) ggX7_push_X7_setWord
theorem dX7_push_0 : decode cX7_push 0 = .ok (.aload_n 0, 1) := by decide +kernel
theorem dX7_push_1 : decode cX7_push 1 = .ok (.aload_n 0, 1) := by decide +kernel
theorem dX7_push_2 : decode cX7_push 2 = .ok (.getfield 55, 3) := by decide +kernel
theorem dX7_push_5 : decode cX7_push 5 = .ok (.iconst 2, 1) := by decide +kernel
theorem dX7_push_6 : decode cX7_push 6 = .ok (.isub, 1) := by decide +kernel
theorem dX7_push_7 : decode cX7_push 7 = .ok (.ldc 50, 2) := by decide +kernel
theorem dX7_push_9 : decode cX7_push 9 = .ok (.iand, 1) := by decide +kernel
theorem dX7_push_10 : decode cX7_push 10 = .ok (.putfield 55, 3) := by decide +kernel
theorem dX7_push_13 : decode cX7_push 13 = .ok (.aload_n 0, 1) := by decide +kernel
theorem dX7_push_14 : decode cX7_push 14 = .ok (.aload_n 0, 1) := by decide +kernel
theorem dX7_push_15 : decode cX7_push 15 = .ok (.getfield 55, 3) := by decide +kernel
theorem dX7_push_18 : decode cX7_push 18 = .ok (.iload_n 1, 1) := by decide +kernel
theorem dX7_push_19 : decode cX7_push 19 = .ok (.invokevirtual 58, 3) := by decide +kernel
theorem dX7_push_22 : decode cX7_push 22 = .ok (.return_, 1) := by decide +kernel
set_option maxRecDepth 20000 in
theorem ggX7_pop_X7_getWord : GoodIn wsX7_pop wsX7_getWord := goodIn_r _ [7, 8, 9, 10, 6, 11, 12, 13, 14, 15, 16, 17, 18, 19, 20, 21, 22, 23, 24, 25, 26, 27, 28, 29, 30, 31, 32, 33, 34, 35, 36, 37, 38, 39, 40, 41, 42] (by decide +kernel) (by decide +kernel)
set_option maxRecDepth 20000 in
theorem gX7_pop_X7_getWord : GoodIn wsX7_pop (wsV RX7 61 RX7 yX7_getWord wsX7_getWord) := goodIn_app (goodIn_of _ (by decide +kernel)) ggX7_pop_X7_getWord
theorem dX7_pop_0 : decode cX7_pop 0 = .ok (.aload_n 0, 1) := by decide +kernel
theorem dX7_pop_1 : decode cX7_pop 1 = .ok (.aload_n 0, 1) := by decide +kernel
theorem dX7_pop_2 : decode cX7_pop 2 = .ok (.getfield 55, 3) := by decide +kernel
theorem dX7_pop_5 : decode cX7_pop 5 = .ok (.invokevirtual 61, 3) := by decide +kernel
theorem dX7_pop_8 : decode cX7_pop 8 = .ok (.istore_n 1, 1) := by decide +kernel
theorem dX7_pop_9 : decode cX7_pop 9 = .ok (.aload_n 0, 1) := by decide +kernel
theorem dX7_pop_10 : decode cX7_pop 10 = .ok (.aload_n 0, 1) := by decide +kernel
theorem dX7_pop_11 : decode cX7_pop 11 = .ok (.getfield 55, 3) := by decide +kernel
theorem dX7_pop_14 : decode cX7_pop 14 = .ok (.iconst 2, 1) := by decide +kernel
theorem dX7_pop_15 : decode cX7_pop 15 = .ok (.iadd, 1) := by decide +kernel
theorem dX7_pop_16 : decode cX7_pop 16 = .ok (.ldc 50, 2) := by decide +kernel
theorem dX7_pop_18 : decode cX7_pop 18 = .ok (.iand, 1) := by decide +kernel
theorem dX7_pop_19 : decode cX7_pop 19 = .ok (.putfield 55, 3) := by decide +kernel
theorem dX7_pop_22 : decode cX7_pop 22 = .ok (.iload_n 1, 1) := by decide +kernel
theorem dX7_pop_23 : decode cX7_pop 23 = .ok (.ireturn, 1) := by decide +kernel
theorem dX7_hl_0 : decode cX7_hl 0 = .ok (.aload_n 0, 1) := by decide +kernel
theorem dX7_hl_1 : decode cX7_hl 1 = .ok (.getfield 16, 3) := by decide +kernel
theorem dX7_hl_4 : decode cX7_hl 4 = .ok (.iconst 4, 1) := by decide +kernel
theorem dX7_hl_5 : decode cX7_hl 5 = .ok (.iaload, 1) := by decide +kernel
theorem dX7_hl_6 : decode cX7_hl 6 = .ok (.bipush 8, 2) := by decide +kernel
theorem dX7_hl_8 : decode cX7_hl 8 = .ok (.ishl, 1) := by decide +kernel
theorem dX7_hl_9 : decode cX7_hl 9 = .ok (.aload_n 0, 1) := by decide +kernel
theorem dX7_hl_10 : decode cX7_hl 10 = .ok (.getfield 16, 3) := by decide +kernel
theorem dX7_hl_13 : decode cX7_hl 13 = .ok (.iconst 5, 1) := by decide +kernel
theorem dX7_hl_14 : decode cX7_hl 14 = .ok (.iaload, 1) := by decide +kernel
theorem dX7_hl_15 : decode cX7_hl 15 = .ok (.ior, 1) := by decide +kernel
theorem dX7_hl_16 : decode cX7_hl 16 = .ok (.ireturn, 1) := by decide +kernel
theorem dX7_pair_0 : decode cX7_pair 0 = .ok (.iload_n 1, 1) := by decide +kernel
theorem dX7_pair_1 : decode cX7_pair 1 = .ok (.iconst 3, 1) := by decide +kernel
theorem dX7_pair_2 : decode cX7_pair 2 = .ok (.if_icmp .ne 10, 3) := by decide +kernel
theorem dX7_pair_5 : decode cX7_pair 5 = .ok (.aload_n 0, 1) := by decide +kernel
theorem dX7_pair_6 : decode cX7_pair 6 = .ok (.getfield 55, 3) := by decide +kernel
theorem dX7_pair_9 : decode cX7_pair 9 = .ok (.goto 25, 3) := by decide +kernel
theorem dX7_pair_12 : decode cX7_pair 12 = .ok (.aload_n 0, 1) := by decide +kernel
theorem dX7_pair_13 : decode cX7_pair 13 = .ok (.getfield 16, 3) := by decide +kernel
theorem dX7_pair_16 : decode cX7_pair 16 = .ok (.iconst 2, 1) := by decide +kernel
theorem dX7_pair_17 : decode cX7_pair 17 = .ok (.iload_n 1, 1) := by decide +kernel
theorem dX7_pair_18 : decode cX7_pair 18 = .ok (.imul, 1) := by decide +kernel
theorem dX7_pair_19 : decode cX7_pair 19 = .ok (.iaload, 1) := by decide +kernel
theorem dX7_pair_20 : decode cX7_pair 20 = .ok (.bipush 8, 2) := by decide +kernel
theorem dX7_pair_22 : decode cX7_pair 22 = .ok (.ishl, 1) := by decide +kernel
theorem dX7_pair_23 : decode cX7_pair 23 = .ok (.aload_n 0, 1) := by decide +kernel
theorem dX7_pair_24 : decode cX7_pair 24 = .ok (.getfield 16, 3) := by decide +kernel
theorem dX7_pair_27 : decode cX7_pair 27 = .ok (.iconst 2, 1) := by decide +kernel
theorem dX7_pair_28 : decode cX7_pair 28 = .ok (.iload_n 1, 1) := by decide +kernel
theorem dX7_pair_29 : decode cX7_pair 29 = .ok (.imul, 1) := by decide +kernel
theorem dX7_pair_30 : decode cX7_pair 30 = .ok (.iconst 1, 1) := by decide +kernel
theorem dX7_pair_31 : decode cX7_pair 31 = .ok (.iadd, 1) := by decide +kernel
theorem dX7_pair_32 : decode cX7_pair 32 = .ok (.iaload, 1) := by decide +kernel
theorem dX7_pair_33 : decode cX7_pair 33 = .ok (.ior, 1) := by decide +kernel
theorem dX7_pair_34 : decode cX7_pair 34 = .ok (.ireturn, 1) := by decide +kernel
theorem dX7_setPair_0 : decode cX7_setPair 0 = .ok (.iload_n 1, 1) := by decide +kernel
theorem dX7_setPair_1 : decode cX7_setPair 1 = .ok (.iconst 3, 1) := by decide +kernel
theorem dX7_setPair_2 : decode cX7_setPair 2 = .ok (.if_icmp .ne 14, 3) := by decide +kernel
theorem dX7_setPair_5 : decode cX7_setPair 5 = .ok (.aload_n 0, 1) := by decide +kernel
theorem dX7_setPair_6 : decode cX7_setPair 6 = .ok (.iload_n 2, 1) := by decide +kernel
theorem dX7_setPair_7 : decode cX7_setPair 7 = .ok (.ldc 50, 2) := by decide +kernel
theorem dX7_setPair_9 : decode cX7_setPair 9 = .ok (.iand, 1) := by decide +kernel
theorem dX7_setPair_10 : decode cX7_setPair 10 = .ok (.putfield 55, 3) := by decide +kernel
theorem dX7_setPair_13 : decode cX7_setPair 13 = .ok (.goto 34, 3) := by decide +kernel
theorem dX7_setPair_16 : decode cX7_setPair 16 = .ok (.aload_n 0, 1) := by decide +kernel
theorem dX7_setPair_17 : decode cX7_setPair 17 = .ok (.getfield 16, 3) := by decide +kernel
theorem dX7_setPair_20 : decode cX7_setPair 20 = .ok (.iconst 2, 1) := by decide +kernel
theorem dX7_setPair_21 : decode cX7_setPair 21 = .ok (.iload_n 1, 1) := by decide +kernel
theorem dX7_setPair_22 : decode cX7_setPair 22 = .ok (.imul, 1) := by decide +kernel
theorem dX7_setPair_23 : decode cX7_setPair 23 = .ok (.iload_n 2, 1) := by decide +kernel
theorem dX7_setPair_24 : decode cX7_setPair 24 = .ok (.bipush 8, 2) := by decide +kernel
theorem dX7_setPair_26 : decode cX7_setPair 26 = .ok (.ishr, 1) := by decide +kernel
theorem dX7_setPair_27 : decode cX7_setPair 27 = .ok (.sipush 255, 3) := by decide +kernel
theorem dX7_setPair_30 : decode cX7_setPair 30 = .ok (.iand, 1) := by decide +kernel
theorem dX7_setPair_31 : decode cX7_setPair 31 = .ok (.iastore, 1) := by decide +kernel
theorem dX7_setPair_32 : decode cX7_setPair 32 = .ok (.aload_n 0, 1) := by decide +kernel
theorem dX7_setPair_33 : decode cX7_setPair 33 = .ok (.getfield 16, 3) := by decide +kernel
theorem dX7_setPair_36 : decode cX7_setPair 36 = .ok (.iconst 2, 1) := by decide +kernel
theorem dX7_setPair_37 : decode cX7_setPair 37 = .ok (.iload_n 1, 1) := by decide +kernel
theorem dX7_setPair_38 : decode cX7_setPair 38 = .ok (.imul, 1) := by decide +kernel
theorem dX7_setPair_39 : decode cX7_setPair 39 = .ok (.iconst 1, 1) := by decide +kernel
theorem dX7_setPair_40 : decode cX7_setPair 40 = .ok (.iadd, 1) := by decide +kernel
theorem dX7_setPair_41 : decode cX7_setPair 41 = .ok (.iload_n 2, 1) := by decide +kernel
theorem dX7_setPair_42 : decode cX7_setPair 42 = .ok (.sipush 255, 3) := by decide +kernel
theorem dX7_setPair_45 : decode cX7_setPair 45 = .ok (.iand, 1) := by decide +kernel
theorem dX7_setPair_46 : decode cX7_setPair 46 = .ok (.iastore, 1) := by decide +kernel
theorem dX7_setPair_47 : decode cX7_setPair 47 = .ok (.return_, 1) := by decide +kernel
set_option maxRecDepth 20000 in
theorem ggX7_reg_X7_hl : GoodIn wsX7_reg wsX7_hl := goodIn_r _ [6, 1, 12, 13, 14, 15, 16, 17, 18, 19, 20, 21, 22, 23, 24, 25, 26, 27, 28, 29, 30, 31, 32, 33, 34, 35, 36, 37, 38, 39, 40, 41] (by decide +kernel) (by decide +kernel)
set_option maxRecDepth 20000 in
theorem gX7_reg_X7_hl : GoodIn wsX7_reg (wsV RX7 64 RX7 yX7_hl wsX7_hl) := goodIn_app (goodIn_of _ (by decide +kernel)) ggX7_reg_X7_hl
set_option maxRecDepth 20000 in
theorem ggX7_reg_X7_get : GoodIn wsX7_reg wsX7_get := goodIn_r _ [10, 11, 12, 13, 14, 15, 16, 17, 18, 19, 20, 21, 22, 23, 24, 25, 26, 27, 28, 29, 30, 31, 32, 33, 34, 35, 36, 37, 38, 39, 40, 41] (by decide +kernel) (by decide +kernel)
set_option maxRecDepth 20000 in
theorem gX7_reg_X7_get : GoodIn wsX7_reg (wsV RX7 39 RX7 yX7_get wsX7_get) := goodIn_app (goodIn_of _ (by decide +kernel)) ggX7_reg_X7_get
theorem dX7_reg_0 : decode cX7_reg 0 = .ok (.iload_n 1, 1) := by decide +kernel
theorem dX7_reg_1 : decode cX7_reg 1 = .ok (.bipush 6, 2) := by decide +kernel
theorem dX7_reg_3 : decode cX7_reg 3 = .ok (.if_icmp .ne 14, 3) := by decide +kernel
theorem dX7_reg_6 : decode cX7_reg 6 = .ok (.aload_n 0, 1) := by decide +kernel
theorem dX7_reg_7 : decode cX7_reg 7 = .ok (.aload_n 0, 1) := by decide +kernel
theorem dX7_reg_8 : decode cX7_reg 8 = .ok (.invokevirtual 64, 3) := by decide +kernel
theorem dX7_reg_11 : decode cX7_reg 11 = .ok (.invokevirtual 39, 3) := by decide +kernel
theorem dX7_reg_14 : decode cX7_reg 14 = .ok (.goto 9, 3) := by decide +kernel
theorem dX7_reg_17 : decode cX7_reg 17 = .ok (.aload_n 0, 1) := by decide +kernel
theorem dX7_reg_18 : decode cX7_reg 18 = .ok (.getfield 16, 3) := by decide +kernel
theorem dX7_reg_21 : decode cX7_reg 21 = .ok (.iload_n 1, 1) := by decide +kernel
theorem dX7_reg_22 : decode cX7_reg 22 = .ok (.iaload, 1) := by decide +kernel
theorem dX7_reg_23 : decode cX7_reg 23 = .ok (.ireturn, 1) := by decide +kernel
set_option maxRecDepth 20000 in
theorem ggX7_setReg_X7_hl : GoodIn wsX7_setReg wsX7_hl := goodIn_r _ [6, 1, 12, 13, 14, 15, 16, 17, 18, 19, 20, 21, 22, 23, 24, 25, 26, 27, 28, 29, 30, 31, 32, 33, 34, 35, 36, 37, 38, 39, 40, 41] (by decide +kernel) (by decide +kernel)
set_option maxRecDepth 20000 in
theorem gX7_setReg_X7_hl : GoodIn wsX7_setReg (wsV RX7 64 RX7 yX7_hl wsX7_hl) := goodIn_app (goodIn_of _ (by decide +kernel)) ggX7_setReg_X7_hl
set_option maxRecDepth 20000 in
theorem ggX7_setReg_X7_set : GoodIn wsX7_setReg wsX7_set := goodIn_r _ [10, 11, 12, 13, 14, 15, 16, 17, 18, 19, 20, 21, 22, 23, 24, 25, 26, 27, 28, 29, 30, 31, 32, 33, 34, 35, 36, 37, 38, 39, 40, 41] (by decide +kernel) (by decide +kernel)
set_option maxRecDepth 20000 in
theorem gX7_setReg_X7_set : GoodIn wsX7_setReg (wsV RX7 43 RX7 yX7_set wsX7_set) := goodIn_app (goodIn_of _ (by decide +kernel)) ggX7_setReg_X7_set
theorem dX7_setReg_0 : decode cX7_setReg 0 = .ok (.iload_n 1, 1) := by decide +kernel
theorem dX7_setReg_1 : decode cX7_setReg 1 = .ok (.bipush 6, 2) := by decide +kernel
theorem dX7_setReg_3 : decode cX7_setReg 3 = .ok (.if_icmp .ne 15, 3) := by decide +kernel
theorem dX7_setReg_6 : decode cX7_setReg 6 = .ok (.aload_n 0, 1) := by decide +kernel
theorem dX7_setReg_7 : decode cX7_setReg 7 = .ok (.aload_n 0, 1) := by decide +kernel
theorem dX7_setReg_8 : decode cX7_setReg 8 = .ok (.invokevirtual 64, 3) := by decide +kernel
theorem dX7_setReg_11 : decode cX7_setReg 11 = .ok (.iload_n 2, 1) := by decide +kernel
theorem dX7_setReg_12 : decode cX7_setReg 12 = .ok (.invokevirtual 43, 3) := by decide +kernel
theorem dX7_setReg_15 : decode cX7_setReg 15 = .ok (.goto 14, 3) := by decide +kernel
theorem dX7_setReg_18 : decode cX7_setReg 18 = .ok (.aload_n 0, 1) := by decide +kernel
theorem dX7_setReg_19 : decode cX7_setReg 19 = .ok (.getfield 16, 3) := by decide +kernel
theorem dX7_setReg_22 : decode cX7_setReg 22 = .ok (.iload_n 1, 1) := by decide +kernel
theorem dX7_setReg_23 : decode cX7_setReg 23 = .ok (.iload_n 2, 1) := by decide +kernel
theorem dX7_setReg_24 : decode cX7_setReg 24 = .ok (.sipush 255, 3) := by decide +kernel
theorem dX7_setReg_27 : decode cX7_setReg 27 = .ok (.iand, 1) := by decide +kernel
theorem dX7_setReg_28 : decode cX7_setReg 28 = .ok (.iastore, 1) := by decide +kernel
theorem dX7_setReg_29 : decode cX7_setReg 29 = .ok (.return_, 1) := by decide +kernel
theorem dX7_flags_0 : decode cX7_flags 0 = .ok (.aload_n 0, 1) := by decide +kernel
theorem dX7_flags_1 : decode cX7_flags 1 = .ok (.getfield 67, 3) := by decide +kernel
theorem dX7_flags_4 : decode cX7_flags 4 = .ok (.ifCond .eq 9, 3) := by decide +kernel
theorem dX7_flags_7 : decode cX7_flags 7 = .ok (.sipush 128, 3) := by decide +kernel
theorem dX7_flags_10 : decode cX7_flags 10 = .ok (.goto 4, 3) := by decide +kernel
theorem dX7_flags_13 : decode cX7_flags 13 = .ok (.iconst 0, 1) := by decide +kernel
theorem dX7_flags_14 : decode cX7_flags 14 = .ok (.aload_n 0, 1) := by decide +kernel
theorem dX7_flags_15 : decode cX7_flags 15 = .ok (.getfield 71, 3) := by decide +kernel
theorem dX7_flags_18 : decode cX7_flags 18 = .ok (.ifCond .eq 8, 3) := by decide +kernel
theorem dX7_flags_21 : decode cX7_flags 21 = .ok (.bipush 64, 2) := by decide +kernel
theorem dX7_flags_23 : decode cX7_flags 23 = .ok (.goto 4, 3) := by decide +kernel
theorem dX7_flags_26 : decode cX7_flags 26 = .ok (.iconst 0, 1) := by decide +kernel
theorem dX7_flags_27 : decode cX7_flags 27 = .ok (.ior, 1) := by decide +kernel
theorem dX7_flags_28 : decode cX7_flags 28 = .ok (.aload_n 0, 1) := by decide +kernel
theorem dX7_flags_29 : decode cX7_flags 29 = .ok (.getfield 74, 3) := by decide +kernel
theorem dX7_flags_32 : decode cX7_flags 32 = .ok (.ifCond .eq 8, 3) := by decide +kernel
theorem dX7_flags_35 : decode cX7_flags 35 = .ok (.bipush 16, 2) := by decide +kernel
theorem dX7_flags_37 : decode cX7_flags 37 = .ok (.goto 4, 3) := by decide +kernel
theorem dX7_flags_40 : decode cX7_flags 40 = .ok (.iconst 0, 1) := by decide +kernel
theorem dX7_flags_41 : decode cX7_flags 41 = .ok (.ior, 1) := by decide +kernel
theorem dX7_flags_42 : decode cX7_flags 42 = .ok (.aload_n 0, 1) := by decide +kernel
theorem dX7_flags_43 : decode cX7_flags 43 = .ok (.getfield 77, 3) := by decide +kernel
theorem dX7_flags_46 : decode cX7_flags 46 = .ok (.ifCond .eq 7, 3) := by decide +kernel
theorem dX7_flags_49 : decode cX7_flags 49 = .ok (.iconst 4, 1) := by decide +kernel
theorem dX7_flags_50 : decode cX7_flags 50 = .ok (.goto 4, 3) := by decide +kernel
theorem dX7_flags_53 : decode cX7_flags 53 = .ok (.iconst 0, 1) := by decide +kernel
theorem dX7_flags_54 : decode cX7_flags 54 = .ok (.ior, 1) := by decide +kernel
theorem dX7_flags_55 : decode cX7_flags 55 = .ok (.iconst 2, 1) := by decide +kernel
theorem dX7_flags_56 : decode cX7_flags 56 = .ok (.ior, 1) := by decide +kernel
theorem dX7_flags_57 : decode cX7_flags 57 = .ok (.aload_n 0, 1) := by decide +kernel
theorem dX7_flags_58 : decode cX7_flags 58 = .ok (.getfield 80, 3) := by decide +kernel
theorem dX7_flags_61 : decode cX7_flags 61 = .ok (.ifCond .eq 7, 3) := by decide +kernel
theorem dX7_flags_64 : decode cX7_flags 64 = .ok (.iconst 1, 1) := by decide +kernel
theorem dX7_flags_65 : decode cX7_flags 65 = .ok (.goto 4, 3) := by decide +kernel
theorem dX7_flags_68 : decode cX7_flags 68 = .ok (.iconst 0, 1) := by decide +kernel
theorem dX7_flags_69 : decode cX7_flags 69 = .ok (.ior, 1) := by decide +kernel
theorem dX7_flags_70 : decode cX7_flags 70 = .ok (.ireturn, 1) := by decide +kernel
theorem dX7_setFlags_0 : decode cX7_setFlags 0 = .ok (.aload_n 0, 1) := by decide +kernel
theorem dX7_setFlags_1 : decode cX7_setFlags 1 = .ok (.iload_n 1, 1) := by decide +kernel
theorem dX7_setFlags_2 : decode cX7_setFlags 2 = .ok (.sipush 128, 3) := by decide +kernel
theorem dX7_setFlags_5 : decode cX7_setFlags 5 = .ok (.iand, 1) := by decide +kernel
theorem dX7_setFlags_6 : decode cX7_setFlags 6 = .ok (.ifCond .eq 7, 3) := by decide +kernel
theorem dX7_setFlags_9 : decode cX7_setFlags 9 = .ok (.iconst 1, 1) := by decide +kernel
theorem dX7_setFlags_10 : decode cX7_setFlags 10 = .ok (.goto 4, 3) := by decide +kernel
theorem dX7_setFlags_13 : decode cX7_setFlags 13 = .ok (.iconst 0, 1) := by decide +kernel
theorem dX7_setFlags_14 : decode cX7_setFlags 14 = .ok (.putfield 67, 3) := by decide +kernel
theorem dX7_setFlags_17 : decode cX7_setFlags 17 = .ok (.aload_n 0, 1) := by decide +kernel
theorem dX7_setFlags_18 : decode cX7_setFlags 18 = .ok (.iload_n 1, 1) := by decide +kernel
theorem dX7_setFlags_19 : decode cX7_setFlags 19 = .ok (.bipush 64, 2) := by decide +kernel
theorem dX7_setFlags_21 : decode cX7_setFlags 21 = .ok (.iand, 1) := by decide +kernel
theorem dX7_setFlags_22 : decode cX7_setFlags 22 = .ok (.ifCond .eq 7, 3) := by decide +kernel
theorem dX7_setFlags_25 : decode cX7_setFlags 25 = .ok (.iconst 1, 1) := by decide +kernel
theorem dX7_setFlags_26 : decode cX7_setFlags 26 = .ok (.goto 4, 3) := by decide +kernel
theorem dX7_setFlags_29 : decode cX7_setFlags 29 = .ok (.iconst 0, 1) := by decide +kernel
theorem dX7_setFlags_30 : decode cX7_setFlags 30 = .ok (.putfield 71, 3) := by decide +kernel
theorem dX7_setFlags_33 : decode cX7_setFlags 33 = .ok (.aload_n 0, 1) := by decide +kernel
theorem dX7_setFlags_34 : decode cX7_setFlags 34 = .ok (.iload_n 1, 1) := by decide +kernel
theorem dX7_setFlags_35 : decode cX7_setFlags 35 = .ok (.bipush 16, 2) := by decide +kernel
theorem dX7_setFlags_37 : decode cX7_setFlags 37 = .ok (.iand, 1) := by decide +kernel
theorem dX7_setFlags_38 : decode cX7_setFlags 38 = .ok (.ifCond .eq 7, 3) := by decide +kernel
theorem dX7_setFlags_41 : decode cX7_setFlags 41 = .ok (.iconst 1, 1) := by decide +kernel
theorem dX7_setFlags_42 : decode cX7_setFlags 42 = .ok (.goto 4, 3) := by decide +kernel
theorem dX7_setFlags_45 : decode cX7_setFlags 45 = .ok (.iconst 0, 1) := by decide +kernel
theorem dX7_setFlags_46 : decode cX7_setFlags 46 = .ok (.putfield 74, 3) := by decide +kernel
theorem dX7_setFlags_49 : decode cX7_setFlags 49 = .ok (.aload_n 0, 1) := by decide +kernel
theorem dX7_setFlags_50 : decode cX7_setFlags 50 = .ok (.iload_n 1, 1) := by decide +kernel
theorem dX7_setFlags_51 : decode cX7_setFlags 51 = .ok (.iconst 4, 1) := by decide +kernel
theorem dX7_setFlags_52 : decode cX7_setFlags 52 = .ok (.iand, 1) := by decide +kernel
theorem dX7_setFlags_53 : decode cX7_setFlags 53 = .ok (.ifCond .eq 7, 3) := by decide +kernel
theorem dX7_setFlags_56 : decode cX7_setFlags 56 = .ok (.iconst 1, 1) := by decide +kernel
theorem dX7_setFlags_57 : decode cX7_setFlags 57 = .ok (.goto 4, 3) := by decide +kernel
theorem dX7_setFlags_60 : decode cX7_setFlags 60 = .ok (.iconst 0, 1) := by decide +kernel
theorem dX7_setFlags_61 : decode cX7_setFlags 61 = .ok (.putfield 77, 3) := by decide +kernel
theorem dX7_setFlags_64 : decode cX7_setFlags 64 = .ok (.aload_n 0, 1) := by decide +kernel
theorem dX7_setFlags_65 : decode cX7_setFlags 65 = .ok (.iload_n 1, 1) := by decide +kernel
theorem dX7_setFlags_66 : decode cX7_setFlags 66 = .ok (.iconst 1, 1) := by decide +kernel
theorem dX7_setFlags_67 : decode cX7_setFlags 67 = .ok (.iand, 1) := by decide +kernel
theorem dX7_setFlags_68 : decode cX7_setFlags 68 = .ok (.ifCond .eq 7, 3) := by decide +kernel
theorem dX7_setFlags_71 : decode cX7_setFlags 71 = .ok (.iconst 1, 1) := by decide +kernel
theorem dX7_setFlags_72 : decode cX7_setFlags 72 = .ok (.goto 4, 3) := by decide +kernel
theorem dX7_setFlags_75 : decode cX7_setFlags 75 = .ok (.iconst 0, 1) := by decide +kernel
theorem dX7_setFlags_76 : decode cX7_setFlags 76 = .ok (.putfield 80, 3) := by decide +kernel
theorem dX7_setFlags_79 : decode cX7_setFlags 79 = .ok (.return_, 1) := by decide +kernel
set_option maxRecDepth 20000 in
theorem ggX7_register_X7_flags : GoodIn wsX7_register wsX7_flags := goodIn_r _ [9, 10, 11, 12, 13, 14, 15, 16, 17, 18, 19, 20, 21, 22, 23, 24, 25, 26, 27, 28, 29, 30, 31, 32, 33, 34, 35, 36, 37, 38, 39, 40, 41, 42, 43, 44] (by decide +kernel) (by decide +kernel)
set_option maxRecDepth 20000 in
theorem gX7_register_X7_flags : GoodIn wsX7_register (wsV RX7 83 RX7 yX7_flags wsX7_flags) := goodIn_app (goodIn_of _ (by decide +kernel)) ggX7_register_X7_flags
theorem dX7_register_0 : decode cX7_register 0 = .ok (.aload_n 0, 1) := by decide +kernel
theorem dX7_register_1 : decode cX7_register 1 = .ok (.iload_n 1, 1) := by decide +kernel
theorem dX7_register_2 : decode cX7_register 2 = .ok (.ifCond .lt 9, 3) := by decide +kernel
theorem dX7_register_5 : decode cX7_register 5 = .ok (.iload_n 1, 1) := by decide +kernel
theorem dX7_register_6 : decode cX7_register 6 = .ok (.bipush 9, 2) := by decide +kernel
theorem dX7_register_8 : decode cX7_register 8 = .ok (.if_icmp .le 7, 3) := by decide +kernel
theorem dX7_register_11 : decode cX7_register 11 = .ok (.iconst 1, 1) := by decide +kernel
theorem dX7_register_12 : decode cX7_register 12 = .ok (.goto 4, 3) := by decide +kernel
theorem dX7_register_15 : decode cX7_register 15 = .ok (.iconst 0, 1) := by decide +kernel
theorem dX7_register_16 : decode cX7_register 16 = .ok (.putfield 29, 3) := by decide +kernel
theorem dX7_register_19 : decode cX7_register 19 = .ok (.aload_n 0, 1) := by decide +kernel
theorem dX7_register_20 : decode cX7_register 20 = .ok (.getfield 29, 3) := by decide +kernel
theorem dX7_register_23 : decode cX7_register 23 = .ok (.ifCond .le 5, 3) := by decide +kernel
theorem dX7_register_26 : decode cX7_register 26 = .ok (.iconst 0, 1) := by decide +kernel
theorem dX7_register_27 : decode cX7_register 27 = .ok (.ireturn, 1) := by decide +kernel
theorem dX7_register_28 : decode cX7_register 28 = .ok (.iload_n 1, 1) := by decide +kernel
theorem dX7_register_29 : decode cX7_register 29 = .ok (.bipush 6, 2) := by decide +kernel
theorem dX7_register_31 : decode cX7_register 31 = .ok (.if_icmp .ne 10, 3) := by decide +kernel
theorem dX7_register_34 : decode cX7_register 34 = .ok (.aload_n 0, 1) := by decide +kernel
theorem dX7_register_35 : decode cX7_register 35 = .ok (.invokevirtual 83, 3) := by decide +kernel
theorem dX7_register_38 : decode cX7_register 38 = .ok (.goto 35, 3) := by decide +kernel
