theorem dJ15_requireNonNull_262c5_0 : decode cJ15_requireNonNull_262c5 0 = .ok (.aload_n 0, 1) := by decide +kernel
theorem dJ15_requireNonNull_262c5_1 : decode cJ15_requireNonNull_262c5 1 = .ok (.ifnonnull 11, 3) := by decide +kernel
theorem dJ15_requireNonNull_262c5_12 : decode cJ15_requireNonNull_262c5 12 = .ok (.aload_n 0, 1) := by decide +kernel
theorem dJ15_requireNonNull_262c5_13 : decode cJ15_requireNonNull_262c5 13 = .ok (.areturn, 1) := by decide +kernel
theorem dJ6_init_d00df_0 : decode cJ6_init_d00df 0 = .ok (.aload_n 0, 1) := by decide +kernel
theorem dJ6_init_d00df_1 : decode cJ6_init_d00df 1 = .ok (.invokespecial 202, 3) := by decide +kernel
theorem dJ6_init_d00df_4 : decode cJ6_init_d00df 4 = .ok (.aload_n 0, 1) := by decide +kernel
theorem dJ6_init_d00df_5 : decode cJ6_init_d00df 5 = .ok (.iload_n 1, 1) := by decide +kernel
theorem dJ6_init_d00df_6 : decode cJ6_init_d00df 6 = .ok (.putfield 205, 3) := by decide +kernel
theorem dJ6_init_d00df_9 : decode cJ6_init_d00df 9 = .ok (.return_, 1) := by decide +kernel
theorem dJ6_valueOf_2dffe_0 : decode cJ6_valueOf_2dffe 0 = .ok (.iload_n 0, 1) := by decide +kernel
theorem dJ6_valueOf_2dffe_1 : decode cJ6_valueOf_2dffe 1 = .ok (.bipush (-128), 2) := by decide +kernel
theorem dJ6_valueOf_2dffe_3 : decode cJ6_valueOf_2dffe 3 = .ok (.if_icmp .lt 20, 3) := by decide +kernel
theorem dJ6_valueOf_2dffe_6 : decode cJ6_valueOf_2dffe 6 = .ok (.iload_n 0, 1) := by decide +kernel
theorem dJ6_valueOf_2dffe_7 : decode cJ6_valueOf_2dffe 7 = .ok (.getstatic 191, 3) := by decide +kernel
theorem dJ6_valueOf_2dffe_10 : decode cJ6_valueOf_2dffe 10 = .ok (.if_icmp .gt 13, 3) := by decide +kernel
theorem dJ6_valueOf_2dffe_13 : decode cJ6_valueOf_2dffe 13 = .ok (.getstatic 195, 3) := by decide +kernel
theorem dJ6_valueOf_2dffe_16 : decode cJ6_valueOf_2dffe 16 = .ok (.iload_n 0, 1) := by decide +kernel
theorem dJ6_valueOf_2dffe_17 : decode cJ6_valueOf_2dffe 17 = .ok (.sipush 128, 3) := by decide +kernel
theorem dJ6_valueOf_2dffe_20 : decode cJ6_valueOf_2dffe 20 = .ok (.iadd, 1) := by decide +kernel
theorem dJ6_valueOf_2dffe_21 : decode cJ6_valueOf_2dffe 21 = .ok (.aaload, 1) := by decide +kernel
theorem dJ6_valueOf_2dffe_22 : decode cJ6_valueOf_2dffe 22 = .ok (.areturn, 1) := by decide +kernel
theorem dJ6_valueOf_2dffe_23 : decode cJ6_valueOf_2dffe 23 = .ok (.new 1, 3) := by decide +kernel
theorem dJ6_valueOf_2dffe_26 : decode cJ6_valueOf_2dffe 26 = .ok (.dup, 1) := by decide +kernel
theorem dJ6_valueOf_2dffe_27 : decode cJ6_valueOf_2dffe 27 = .ok (.iload_n 0, 1) := by decide +kernel
theorem dJ6_valueOf_2dffe_28 : decode cJ6_valueOf_2dffe 28 = .ok (.invokespecial 199, 3) := by decide +kernel
theorem dJ6_valueOf_2dffe_31 : decode cJ6_valueOf_2dffe 31 = .ok (.areturn, 1) := by decide +kernel
theorem dJx35411_hasNext_aae02_0 : decode cJx35411_hasNext_aae02 0 = .ok (.aload_n 0, 1) := by decide +kernel
theorem dJx35411_hasNext_aae02_1 : decode cJx35411_hasNext_aae02 1 = .ok (.getfield 25, 3) := by decide +kernel
theorem dJx35411_hasNext_aae02_4 : decode cJx35411_hasNext_aae02 4 = .ok (.aload_n 0, 1) := by decide +kernel
theorem dJx35411_hasNext_aae02_5 : decode cJx35411_hasNext_aae02 5 = .ok (.getfield 1, 3) := by decide +kernel
theorem dJx35411_hasNext_aae02_8 : decode cJx35411_hasNext_aae02 8 = .ok (.getfield 28, 3) := by decide +kernel
theorem dJx35411_hasNext_aae02_11 : decode cJx35411_hasNext_aae02 11 = .ok (.if_icmp .eq 7, 3) := by decide +kernel
theorem dJx35411_hasNext_aae02_18 : decode cJx35411_hasNext_aae02 18 = .ok (.iconst 0, 1) := by decide +kernel
theorem dJx35411_hasNext_aae02_19 : decode cJx35411_hasNext_aae02 19 = .ok (.ireturn, 1) := by decide +kernel
theorem dJx35411_init_45d68_0 : decode cJx35411_init_45d68 0 = .ok (.aload_n 0, 1) := by decide +kernel
theorem dJx35411_init_45d68_1 : decode cJx35411_init_45d68 1 = .ok (.aload_n 1, 1) := by decide +kernel
theorem dJx35411_init_45d68_2 : decode cJx35411_init_45d68 2 = .ok (.putfield 1, 3) := by decide +kernel
theorem dJx35411_init_45d68_5 : decode cJx35411_init_45d68 5 = .ok (.aload_n 0, 1) := by decide +kernel
theorem dJx35411_init_45d68_6 : decode cJx35411_init_45d68 6 = .ok (.invokespecial 7, 3) := by decide +kernel
theorem dJx35411_init_45d68_9 : decode cJx35411_init_45d68 9 = .ok (.aload_n 0, 1) := by decide +kernel
theorem dJx35411_init_45d68_10 : decode cJx35411_init_45d68 10 = .ok (.iconst (-1), 1) := by decide +kernel
theorem dJx35411_init_45d68_11 : decode cJx35411_init_45d68 11 = .ok (.putfield 13, 3) := by decide +kernel
theorem dJx35411_init_45d68_14 : decode cJx35411_init_45d68 14 = .ok (.aload_n 0, 1) := by decide +kernel
theorem dJx35411_init_45d68_15 : decode cJx35411_init_45d68 15 = .ok (.aload_n 0, 1) := by decide +kernel
theorem dJx35411_init_45d68_16 : decode cJx35411_init_45d68 16 = .ok (.getfield 1, 3) := by decide +kernel
theorem dJx35411_init_45d68_19 : decode cJx35411_init_45d68 19 = .ok (.getfield 17, 3) := by decide +kernel
theorem dJx35411_init_45d68_22 : decode cJx35411_init_45d68 22 = .ok (.putfield 22, 3) := by decide +kernel
theorem dJx35411_init_45d68_25 : decode cJx35411_init_45d68 25 = .ok (.return_, 1) := by decide +kernel
theorem dJx4a65c_init_da8c8_0 : decode cJx4a65c_init_da8c8 0 = .ok (.aload_n 0, 1) := by decide +kernel
theorem dJx4a65c_init_da8c8_1 : decode cJx4a65c_init_da8c8 1 = .ok (.invokespecial 1, 3) := by decide +kernel
theorem dJx4a65c_init_da8c8_4 : decode cJx4a65c_init_da8c8 4 = .ok (.aload_n 0, 1) := by decide +kernel
theorem dJx4a65c_init_da8c8_5 : decode cJx4a65c_init_da8c8 5 = .ok (.getstatic 39, 3) := by decide +kernel
theorem dJx4a65c_init_da8c8_8 : decode cJx4a65c_init_da8c8 8 = .ok (.putfield 9, 3) := by decide +kernel
theorem dJx4a65c_init_da8c8_11 : decode cJx4a65c_init_da8c8 11 = .ok (.return_, 1) := by decide +kernel
theorem dJx4a65c_iterator_32c93_0 : decode cJx4a65c_iterator_32c93 0 = .ok (.new 267, 3) := by decide +kernel
theorem dJx4a65c_iterator_32c93_3 : decode cJx4a65c_iterator_32c93 3 = .ok (.dup, 1) := by decide +kernel
theorem dJx4a65c_iterator_32c93_4 : decode cJx4a65c_iterator_32c93 4 = .ok (.aload_n 0, 1) := by decide +kernel
theorem dJx4a65c_iterator_32c93_5 : decode cJx4a65c_iterator_32c93 5 = .ok (.invokespecial 269, 3) := by decide +kernel
theorem dJx4a65c_iterator_32c93_8 : decode cJx4a65c_iterator_32c93 8 = .ok (.areturn, 1) := by decide +kernel
theorem dJxa1e45_init_da8c8_0 : decode cJxa1e45_init_da8c8 0 = .ok (.aload_n 0, 1) := by decide +kernel
theorem dJxa1e45_init_da8c8_1 : decode cJxa1e45_init_da8c8 1 = .ok (.invokespecial 1, 3) := by decide +kernel
theorem dJxa1e45_init_da8c8_4 : decode cJxa1e45_init_da8c8 4 = .ok (.return_, 1) := by decide +kernel
theorem dJxc12de_init_da8c8_0 : decode cJxc12de_init_da8c8 0 = .ok (.aload_n 0, 1) := by decide +kernel
theorem dJxc12de_init_da8c8_1 : decode cJxc12de_init_da8c8 1 = .ok (.invokespecial 1, 3) := by decide +kernel
theorem dJxc12de_init_da8c8_4 : decode cJxc12de_init_da8c8 4 = .ok (.aload_n 0, 1) := by decide +kernel
theorem dJxc12de_init_da8c8_5 : decode cJxc12de_init_da8c8 5 = .ok (.iconst 0, 1) := by decide +kernel
theorem dJxc12de_init_da8c8_6 : decode cJxc12de_init_da8c8 6 = .ok (.putfield 7, 3) := by decide +kernel
theorem dJxc12de_init_da8c8_9 : decode cJxc12de_init_da8c8 9 = .ok (.return_, 1) := by decide +kernel
theorem dJxd2413_init_da8c8_0 : decode cJxd2413_init_da8c8 0 = .ok (.aload_n 0, 1) := by decide +kernel
theorem dJxd2413_init_da8c8_1 : decode cJxd2413_init_da8c8 1 = .ok (.invokespecial 1, 3) := by decide +kernel
theorem dJxd2413_init_da8c8_4 : decode cJxd2413_init_da8c8 4 = .ok (.return_, 1) := by decide +kernel
theorem dX19_init_0 : decode cX19_init 0 = .ok (.aload_n 0, 1) := by decide +kernel
theorem dX19_init_1 : decode cX19_init 1 = .ok (.invokespecial 1, 3) := by decide +kernel
theorem dX19_init_4 : decode cX19_init 4 = .ok (.return_, 1) := by decide +kernel
theorem dX25_hasNext_0 : decode cX25_hasNext 0 = .ok (.aload_n 0, 1) := by decide +kernel
theorem dX25_hasNext_1 : decode cX25_hasNext 1 = .ok (.getfield 26, 3) := by decide +kernel
theorem dX25_hasNext_4 : decode cX25_hasNext 4 = .ok (.ifnull 7, 3) := by decide +kernel
theorem dX25_hasNext_11 : decode cX25_hasNext 11 = .ok (.iconst 0, 1) := by decide +kernel
theorem dX25_hasNext_12 : decode cX25_hasNext 12 = .ok (.ireturn, 1) := by decide +kernel
theorem dX25_init_0 : decode cX25_init 0 = .ok (.aload_n 0, 1) := by decide +kernel
theorem dX25_init_1 : decode cX25_init 1 = .ok (.aload_n 1, 1) := by decide +kernel
theorem dX25_init_2 : decode cX25_init 2 = .ok (.putfield 1, 3) := by decide +kernel
theorem dX25_init_5 : decode cX25_init 5 = .ok (.aload_n 0, 1) := by decide +kernel
theorem dX25_init_6 : decode cX25_init 6 = .ok (.invokespecial 7, 3) := by decide +kernel
theorem dX25_init_9 : decode cX25_init 9 = .ok (.aload_n 0, 1) := by decide +kernel
theorem dX25_init_10 : decode cX25_init 10 = .ok (.aload_n 1, 1) := by decide +kernel
theorem dX25_init_11 : decode cX25_init 11 = .ok (.getfield 13, 3) := by decide +kernel
theorem dX25_init_14 : decode cX25_init 14 = .ok (.putfield 19, 3) := by decide +kernel
theorem dX25_init_17 : decode cX25_init 17 = .ok (.aload_n 0, 1) := by decide +kernel
theorem dX25_init_18 : decode cX25_init 18 = .ok (.aconst_null, 1) := by decide +kernel
theorem dX25_init_19 : decode cX25_init 19 = .ok (.putfield 22, 3) := by decide +kernel
theorem dX25_init_22 : decode cX25_init 22 = .ok (.aload_n 0, 1) := by decide +kernel
theorem dX25_init_23 : decode cX25_init 23 = .ok (.aload_n 2, 1) := by decide +kernel
theorem dX25_init_24 : decode cX25_init 24 = .ok (.putfield 26, 3) := by decide +kernel
theorem dX25_init_27 : decode cX25_init 27 = .ok (.return_, 1) := by decide +kernel
theorem dX26_init_0 : decode cX26_init 0 = .ok (.aload_n 0, 1) := by decide +kernel
theorem dX26_init_1 : decode cX26_init 1 = .ok (.aload_n 1, 1) := by decide +kernel
theorem dX26_init_2 : decode cX26_init 2 = .ok (.aload_n 2, 1) := by decide +kernel
theorem dX26_init_3 : decode cX26_init 3 = .ok (.invokespecial 1, 3) := by decide +kernel
theorem dX26_init_6 : decode cX26_init 6 = .ok (.return_, 1) := by decide +kernel
theorem dX27_init_0 : decode cX27_init 0 = .ok (.aload_n 0, 1) := by decide +kernel
theorem dX27_init_1 : decode cX27_init 1 = .ok (.aload_n 1, 1) := by decide +kernel
theorem dX27_init_2 : decode cX27_init 2 = .ok (.putfield 1, 3) := by decide +kernel
theorem dX27_init_5 : decode cX27_init 5 = .ok (.aload_n 0, 1) := by decide +kernel
theorem dX27_init_6 : decode cX27_init 6 = .ok (.invokespecial 7, 3) := by decide +kernel
theorem dX27_init_9 : decode cX27_init 9 = .ok (.return_, 1) := by decide +kernel
theorem dX27_iterator_0 : decode cX27_iterator 0 = .ok (.new 13, 3) := by decide +kernel
theorem dX27_iterator_3 : decode cX27_iterator 3 = .ok (.dup, 1) := by decide +kernel
theorem dX27_iterator_4 : decode cX27_iterator 4 = .ok (.aload_n 0, 1) := by decide +kernel
theorem dX27_iterator_5 : decode cX27_iterator 5 = .ok (.getfield 1, 3) := by decide +kernel
theorem dX27_iterator_8 : decode cX27_iterator 8 = .ok (.aload_n 0, 1) := by decide +kernel
theorem dX27_iterator_9 : decode cX27_iterator 9 = .ok (.getfield 1, 3) := by decide +kernel
theorem dX27_iterator_12 : decode cX27_iterator 12 = .ok (.invokevirtual 15, 3) := by decide +kernel
theorem dX27_iterator_15 : decode cX27_iterator 15 = .ok (.invokespecial 21, 3) := by decide +kernel
theorem dX27_iterator_18 : decode cX27_iterator 18 = .ok (.areturn, 1) := by decide +kernel
theorem dX28_get_0 : decode cX28_get 0 = .ok (.aload_n 0, 1) := by decide +kernel
theorem dX28_get_1 : decode cX28_get 1 = .ok (.aload_n 1, 1) := by decide +kernel
theorem dX28_get_2 : decode cX28_get 2 = .ok (.invokevirtual 50, 3) := by decide +kernel
theorem dX28_get_5 : decode cX28_get 5 = .ok (.astore_n 2, 1) := by decide +kernel
theorem dX28_get_6 : decode cX28_get 6 = .ok (.aload_n 2, 1) := by decide +kernel
theorem dX28_get_7 : decode cX28_get 7 = .ok (.ifnonnull 7, 3) := by decide +kernel
theorem dX28_get_10 : decode cX28_get 10 = .ok (.aconst_null, 1) := by decide +kernel
theorem dX28_get_11 : decode cX28_get 11 = .ok (.goto 7, 3) := by decide +kernel
theorem dX28_get_18 : decode cX28_get 18 = .ok (.areturn, 1) := by decide +kernel
theorem dX28_getEntry_0 : decode cX28_getEntry 0 = .ok (.aload_n 0, 1) := by decide +kernel
theorem dX28_getEntry_1 : decode cX28_getEntry 1 = .ok (.getfield 16, 3) := by decide +kernel
theorem dX28_getEntry_4 : decode cX28_getEntry 4 = .ok (.ifnull 9, 3) := by decide +kernel
theorem dX28_getEntry_13 : decode cX28_getEntry 13 = .ok (.aload_n 1, 1) := by decide +kernel
theorem dX28_getEntry_14 : decode cX28_getEntry 14 = .ok (.invokestatic 95, 3) := by decide +kernel
theorem dX28_getEntry_17 : decode cX28_getEntry 17 = .ok (.pop, 1) := by decide +kernel
theorem dX28_getEntry_18 : decode cX28_getEntry 18 = .ok (.aload_n 1, 1) := by decide +kernel
theorem dX28_getEntry_19 : decode cX28_getEntry 19 = .ok (.checkcast 99, 3) := by decide +kernel
theorem dX28_getEntry_22 : decode cX28_getEntry 22 = .ok (.astore_n 2, 1) := by decide +kernel
theorem dX28_getEntry_23 : decode cX28_getEntry 23 = .ok (.aload_n 0, 1) := by decide +kernel
theorem dX28_getEntry_24 : decode cX28_getEntry 24 = .ok (.getfield 101, 3) := by decide +kernel
theorem dX28_getEntry_27 : decode cX28_getEntry 27 = .ok (.astore_n 3, 1) := by decide +kernel
theorem dX28_getEntry_28 : decode cX28_getEntry 28 = .ok (.aload_n 3, 1) := by decide +kernel
theorem dX28_getEntry_29 : decode cX28_getEntry 29 = .ok (.ifnull 46, 3) := by decide +kernel
theorem dX28_getEntry_75 : decode cX28_getEntry 75 = .ok (.aconst_null, 1) := by decide +kernel
theorem dX28_getEntry_76 : decode cX28_getEntry 76 = .ok (.areturn, 1) := by decide +kernel
theorem dX28_getFirstEntry_0 : decode cX28_getFirstEntry 0 = .ok (.aload_n 0, 1) := by decide +kernel
theorem dX28_getFirstEntry_1 : decode cX28_getFirstEntry 1 = .ok (.getfield 101, 3) := by decide +kernel
theorem dX28_getFirstEntry_4 : decode cX28_getFirstEntry 4 = .ok (.astore_n 1, 1) := by decide +kernel
theorem dX28_getFirstEntry_5 : decode cX28_getFirstEntry 5 = .ok (.aload_n 1, 1) := by decide +kernel
theorem dX28_getFirstEntry_6 : decode cX28_getFirstEntry 6 = .ok (.ifnull 18, 3) := by decide +kernel
theorem dX28_getFirstEntry_24 : decode cX28_getFirstEntry 24 = .ok (.aload_n 1, 1) := by decide +kernel
theorem dX28_getFirstEntry_25 : decode cX28_getFirstEntry 25 = .ok (.areturn, 1) := by decide +kernel
theorem dX28_init_0 : decode cX28_init 0 = .ok (.aload_n 0, 1) := by decide +kernel
theorem dX28_init_1 : decode cX28_init 1 = .ok (.invokespecial 1, 3) := by decide +kernel
theorem dX28_init_4 : decode cX28_init 4 = .ok (.aload_n 0, 1) := by decide +kernel
theorem dX28_init_5 : decode cX28_init 5 = .ok (.iconst 0, 1) := by decide +kernel
theorem dX28_init_6 : decode cX28_init 6 = .ok (.putfield 7, 3) := by decide +kernel
theorem dX28_init_9 : decode cX28_init 9 = .ok (.aload_n 0, 1) := by decide +kernel
theorem dX28_init_10 : decode cX28_init 10 = .ok (.iconst 0, 1) := by decide +kernel
theorem dX28_init_11 : decode cX28_init 11 = .ok (.putfield 13, 3) := by decide +kernel
theorem dX28_init_14 : decode cX28_init 14 = .ok (.aload_n 0, 1) := by decide +kernel
theorem dX28_init_15 : decode cX28_init 15 = .ok (.aconst_null, 1) := by decide +kernel
theorem dX28_init_16 : decode cX28_init 16 = .ok (.putfield 16, 3) := by decide +kernel
theorem dX28_init_19 : decode cX28_init 19 = .ok (.return_, 1) := by decide +kernel
theorem dX28_values_0 : decode cX28_values 0 = .ok (.aload_n 0, 1) := by decide +kernel
theorem dX28_values_1 : decode cX28_values 1 = .ok (.getfield 233, 3) := by decide +kernel
theorem dX28_values_4 : decode cX28_values 4 = .ok (.astore_n 1, 1) := by decide +kernel
theorem dX28_values_5 : decode cX28_values 5 = .ok (.aload_n 1, 1) := by decide +kernel
theorem dX28_values_6 : decode cX28_values 6 = .ok (.ifnonnull 17, 3) := by decide +kernel
theorem dX28_values_9 : decode cX28_values 9 = .ok (.new 237, 3) := by decide +kernel
theorem dX28_values_12 : decode cX28_values 12 = .ok (.dup, 1) := by decide +kernel
theorem dX28_values_13 : decode cX28_values 13 = .ok (.aload_n 0, 1) := by decide +kernel
theorem dX28_values_14 : decode cX28_values 14 = .ok (.invokespecial 239, 3) := by decide +kernel
theorem dX28_values_17 : decode cX28_values 17 = .ok (.astore_n 1, 1) := by decide +kernel
theorem dX28_values_18 : decode cX28_values 18 = .ok (.aload_n 0, 1) := by decide +kernel
theorem dX28_values_19 : decode cX28_values 19 = .ok (.aload_n 1, 1) := by decide +kernel
theorem dX28_values_20 : decode cX28_values 20 = .ok (.putfield 233, 3) := by decide +kernel
theorem dX28_values_23 : decode cX28_values 23 = .ok (.aload_n 1, 1) := by decide +kernel
theorem dX28_values_24 : decode cX28_values 24 = .ok (.areturn, 1) := by decide +kernel
theorem m_13 : (Cond.initialized "java/util/AbstractCollection") ∈ lw_all := lw_in 13 (by decide +kernel) (by decide +kernel)
theorem m_14 : (Cond.initialized "java/util/AbstractList") ∈ lw_all := lw_in 14 (by decide +kernel) (by decide +kernel)
theorem m_16 : (Cond.initialized "java/util/AbstractMap") ∈ lw_all := lw_in 16 (by decide +kernel) (by decide +kernel)
theorem m_17 : (Cond.initialized "java/util/TreeMap") ∈ lw_all := lw_in 17 (by decide +kernel) (by decide +kernel)
theorem m_31 : (Cond.initialized "java/util/Objects") ∈ lw_all := lw_in 31 (by decide +kernel) (by decide +kernel)
theorem m_37 : (Cond.initialized "java/lang/Number") ∈ lw_all := lw_in 37 (by decide +kernel) (by decide +kernel)
theorem m_38 : (Cond.initialized "java/lang/Integer") ∈ lw_all := lw_in 38 (by decide +kernel) (by decide +kernel)
theorem m_47 : (Cond.initialized "java/util/TreeMap$Values") ∈ lw_all := lw_in 47 (by decide +kernel) (by decide +kernel)
theorem m_48 : (Cond.initialized "java/util/ArrayList$Itr") ∈ lw_all := lw_in 48 (by decide +kernel) (by decide +kernel)
theorem m_49 : (Cond.initialized "java/util/TreeMap$PrivateEntryIterator") ∈ lw_all := lw_in 49 (by decide +kernel) (by decide +kernel)
theorem m_50 : (Cond.initialized "java/util/TreeMap$ValueIterator") ∈ lw_all := lw_in 50 (by decide +kernel) (by decide +kernel)
theorem m_69 : (Cond.instanceMethod ⟨"java/lang/Object", "<init>", "()V"⟩) ∈ lw_all := lw_in 69 (by decide +kernel) (by decide +kernel)
theorem m_70 : (Cond.code ⟨"java/lang/Object", "<init>", "()V"⟩ object_method_1_code 1 (Option.none : Option Jvm.ClassFile.FieldType)) ∈ lw_all := lw_in 70 (by decide +kernel) (by decide +kernel)
theorem m_1122 : (Cond.methodLink "java/util/ArrayList" 1 ⟨"java/util/AbstractList", "<init>", "()V"⟩) ∈ lw_all := lw_in 1122 (by decide +kernel) (by decide +kernel)
theorem m_1123 : (Cond.instanceMethod ⟨"java/util/AbstractList", "<init>", "()V"⟩) ∈ lw_all := lw_in 1123 (by decide +kernel) (by decide +kernel)
theorem m_1124 : (Cond.code ⟨"java/util/AbstractList", "<init>", "()V"⟩ prog_53_method_1_code 1 (Option.none : Option Jvm.ClassFile.FieldType)) ∈ lw_all := lw_in 1124 (by decide +kernel) (by decide +kernel)
theorem m_1125 : (Cond.methodLink "java/util/AbstractList" 1 ⟨"java/util/AbstractCollection", "<init>", "()V"⟩) ∈ lw_all := lw_in 1125 (by decide +kernel) (by decide +kernel)
theorem m_1126 : (Cond.instanceMethod ⟨"java/util/AbstractCollection", "<init>", "()V"⟩) ∈ lw_all := lw_in 1126 (by decide +kernel) (by decide +kernel)
theorem m_1127 : (Cond.code ⟨"java/util/AbstractCollection", "<init>", "()V"⟩ prog_52_method_1_code 1 (Option.none : Option Jvm.ClassFile.FieldType)) ∈ lw_all := lw_in 1127 (by decide +kernel) (by decide +kernel)
theorem m_1128 : (Cond.methodLink "java/util/AbstractCollection" 1 ⟨"java/lang/Object", "<init>", "()V"⟩) ∈ lw_all := lw_in 1128 (by decide +kernel) (by decide +kernel)
theorem m_1129 : (Cond.fieldLink "java/util/ArrayList" 39 "java/util/ArrayList" "DEFAULTCAPACITY_EMPTY_ELEMENTDATA" "[Ljava/lang/Object;") ∈ lw_all := lw_in 1129 (by decide +kernel) (by decide +kernel)
theorem m_1131 : (Cond.fieldLink "java/util/ArrayList" 9 "java/util/ArrayList" "elementData" "[Ljava/lang/Object;") ∈ lw_all := lw_in 1131 (by decide +kernel) (by decide +kernel)
theorem m_1135 : (Cond.fieldLink "java/util/AbstractList" 7 "java/util/AbstractList" "modCount" "I") ∈ lw_all := lw_in 1135 (by decide +kernel) (by decide +kernel)
theorem m_1136 : (Cond.fieldLink "java/util/ArrayList$Itr" 17 "java/util/ArrayList" "modCount" "I") ∈ lw_all := lw_in 1136 (by decide +kernel) (by decide +kernel)
theorem m_1137 : (Cond.sameField "java/util/ArrayList" "java/util/AbstractList" "modCount" "I") ∈ lw_all := lw_in 1137 (by decide +kernel) (by decide +kernel)
theorem m_1151 : (Cond.methodLink "java/util/TreeMap" 1 ⟨"java/util/AbstractMap", "<init>", "()V"⟩) ∈ lw_all := lw_in 1151 (by decide +kernel) (by decide +kernel)
theorem m_1152 : (Cond.instanceMethod ⟨"java/util/AbstractMap", "<init>", "()V"⟩) ∈ lw_all := lw_in 1152 (by decide +kernel) (by decide +kernel)
theorem m_1153 : (Cond.code ⟨"java/util/AbstractMap", "<init>", "()V"⟩ prog_54_method_1_code 1 (Option.none : Option Jvm.ClassFile.FieldType)) ∈ lw_all := lw_in 1153 (by decide +kernel) (by decide +kernel)
theorem m_1154 : (Cond.methodLink "java/util/AbstractMap" 1 ⟨"java/lang/Object", "<init>", "()V"⟩) ∈ lw_all := lw_in 1154 (by decide +kernel) (by decide +kernel)
theorem m_1155 : (Cond.fieldLink "java/util/TreeMap" 16 "java/util/TreeMap" "comparator" "Ljava/util/Comparator;") ∈ lw_all := lw_in 1155 (by decide +kernel) (by decide +kernel)
theorem m_1156 : (Cond.fieldLink "java/util/TreeMap" 101 "java/util/TreeMap" "root" "Ljava/util/TreeMap$Entry;") ∈ lw_all := lw_in 1156 (by decide +kernel) (by decide +kernel)
theorem m_1157 : (Cond.fieldLink "java/util/TreeMap" 7 "java/util/TreeMap" "size" "I") ∈ lw_all := lw_in 1157 (by decide +kernel) (by decide +kernel)
theorem m_1158 : (Cond.fieldLink "java/util/TreeMap" 13 "java/util/TreeMap" "modCount" "I") ∈ lw_all := lw_in 1158 (by decide +kernel) (by decide +kernel)
theorem m_1160 : (Cond.fieldLink "java/util/TreeMap" 233 "java/util/TreeMap" "values" "Ljava/util/Collection;") ∈ lw_all := lw_in 1160 (by decide +kernel) (by decide +kernel)
theorem m_1161 : (Cond.sameField "java/util/TreeMap" "java/util/AbstractMap" "values" "Ljava/util/Collection;") ∈ lw_all := lw_in 1161 (by decide +kernel) (by decide +kernel)
theorem m_1528 : (Cond.fieldLink "java/lang/Integer" 191 "java/lang/Integer$IntegerCache" "high" "I") ∈ lw_all := lw_in 1528 (by decide +kernel) (by decide +kernel)
theorem m_1530 : (Cond.fieldLink "java/lang/Integer" 195 "java/lang/Integer$IntegerCache" "cache" "[Ljava/lang/Integer;") ∈ lw_all := lw_in 1530 (by decide +kernel) (by decide +kernel)
theorem m_1532 : (Cond.classLink "java/lang/Integer" 1 "java/lang/Integer") ∈ lw_all := lw_in 1532 (by decide +kernel) (by decide +kernel)
theorem m_1533 : (Cond.instantiable "java/lang/Integer" 1) ∈ lw_all := lw_in 1533 (by decide +kernel) (by decide +kernel)
theorem m_1534 : (Cond.methodLink "java/lang/Integer" 199 ⟨"java/lang/Integer", "<init>", "(I)V"⟩) ∈ lw_all := lw_in 1534 (by decide +kernel) (by decide +kernel)
theorem m_1535 : (Cond.instanceMethod ⟨"java/lang/Integer", "<init>", "(I)V"⟩) ∈ lw_all := lw_in 1535 (by decide +kernel) (by decide +kernel)
theorem m_1536 : (Cond.code ⟨"java/lang/Integer", "<init>", "(I)V"⟩ prog_35_method_23_code 2 (Option.none : Option Jvm.ClassFile.FieldType)) ∈ lw_all := lw_in 1536 (by decide +kernel) (by decide +kernel)
theorem m_1537 : (Cond.methodLink "java/lang/Integer" 202 ⟨"java/lang/Number", "<init>", "()V"⟩) ∈ lw_all := lw_in 1537 (by decide +kernel) (by decide +kernel)
theorem m_1538 : (Cond.instanceMethod ⟨"java/lang/Number", "<init>", "()V"⟩) ∈ lw_all := lw_in 1538 (by decide +kernel) (by decide +kernel)
theorem m_1539 : (Cond.code ⟨"java/lang/Number", "<init>", "()V"⟩ prog_40_method_1_code 1 (Option.none : Option Jvm.ClassFile.FieldType)) ∈ lw_all := lw_in 1539 (by decide +kernel) (by decide +kernel)
theorem m_1540 : (Cond.methodLink "java/lang/Number" 1 ⟨"java/lang/Object", "<init>", "()V"⟩) ∈ lw_all := lw_in 1540 (by decide +kernel) (by decide +kernel)
theorem m_1541 : (Cond.fieldLink "java/lang/Integer" 205 "java/lang/Integer" "value" "I") ∈ lw_all := lw_in 1541 (by decide +kernel) (by decide +kernel)
theorem m_1549 : (Cond.methodLink "java/util/TreeMap" 50 ⟨"java/util/TreeMap", "getEntry", "(Ljava/lang/Object;)Ljava/util/TreeMap$Entry;"⟩) ∈ lw_all := lw_in 1549 (by decide +kernel) (by decide +kernel)
theorem m_1550 : (Cond.instanceMethod ⟨"java/util/TreeMap", "getEntry", "(Ljava/lang/Object;)Ljava/util/TreeMap$Entry;"⟩) ∈ lw_all := lw_in 1550 (by decide +kernel) (by decide +kernel)
theorem m_1551 : (Cond.selects "java/util/TreeMap" ⟨"java/util/TreeMap", "getEntry", "(Ljava/lang/Object;)Ljava/util/TreeMap$Entry;"⟩ ⟨"java/util/TreeMap", "getEntry", "(Ljava/lang/Object;)Ljava/util/TreeMap$Entry;"⟩) ∈ lw_all := lw_in 1551 (by decide +kernel) (by decide +kernel)
theorem m_1552 : (Cond.code ⟨"java/util/TreeMap", "getEntry", "(Ljava/lang/Object;)Ljava/util/TreeMap$Entry;"⟩ prog_75_method_15_code 5 (Option.some (Jvm.ClassFile.FieldType.object "java/util/TreeMap$Entry"))) ∈ lw_all := lw_in 1552 (by decide +kernel) (by decide +kernel)
theorem m_1561 : (Cond.methodLink "java/util/TreeMap" 95 ⟨"java/util/Objects", "requireNonNull", "(Ljava/lang/Object;)Ljava/lang/Object;"⟩) ∈ lw_all := lw_in 1561 (by decide +kernel) (by decide +kernel)
theorem m_1562 : (Cond.static ⟨"java/util/Objects", "requireNonNull", "(Ljava/lang/Object;)Ljava/lang/Object;"⟩) ∈ lw_all := lw_in 1562 (by decide +kernel) (by decide +kernel)
theorem m_1563 : (Cond.code ⟨"java/util/Objects", "requireNonNull", "(Ljava/lang/Object;)Ljava/lang/Object;"⟩ prog_70_method_10_code 1 (Option.some (Jvm.ClassFile.FieldType.object "java/lang/Object"))) ∈ lw_all := lw_in 1563 (by decide +kernel) (by decide +kernel)
theorem m_1564 : (Cond.classLink "java/util/TreeMap" 99 "java/lang/Comparable") ∈ lw_all := lw_in 1564 (by decide +kernel) (by decide +kernel)
theorem m_1908 : (Cond.classLink "java/util/TreeMap" 237 "java/util/TreeMap$Values") ∈ lw_all := lw_in 1908 (by decide +kernel) (by decide +kernel)
theorem m_1909 : (Cond.instantiable "java/util/TreeMap$Values" 1) ∈ lw_all := lw_in 1909 (by decide +kernel) (by decide +kernel)
theorem m_1910 : (Cond.methodLink "java/util/TreeMap" 239 ⟨"java/util/TreeMap$Values", "<init>", "(Ljava/util/TreeMap;)V"⟩) ∈ lw_all := lw_in 1910 (by decide +kernel) (by decide +kernel)
theorem m_1911 : (Cond.instanceMethod ⟨"java/util/TreeMap$Values", "<init>", "(Ljava/util/TreeMap;)V"⟩) ∈ lw_all := lw_in 1911 (by decide +kernel) (by decide +kernel)
theorem m_1912 : (Cond.code ⟨"java/util/TreeMap$Values", "<init>", "(Ljava/util/TreeMap;)V"⟩ prog_79_method_1_code 2 (Option.none : Option Jvm.ClassFile.FieldType)) ∈ lw_all := lw_in 1912 (by decide +kernel) (by decide +kernel)
theorem m_1913 : (Cond.methodLink "java/util/TreeMap$Values" 7 ⟨"java/util/AbstractCollection", "<init>", "()V"⟩) ∈ lw_all := lw_in 1913 (by decide +kernel) (by decide +kernel)
theorem m_1914 : (Cond.fieldLink "java/util/TreeMap$Values" 1 "java/util/TreeMap$Values" "this$0" "Ljava/util/TreeMap;") ∈ lw_all := lw_in 1914 (by decide +kernel) (by decide +kernel)
theorem m_1928 : (Cond.classLink "java/util/ArrayList" 267 "java/util/ArrayList$Itr") ∈ lw_all := lw_in 1928 (by decide +kernel) (by decide +kernel)
theorem m_1929 : (Cond.instantiable "java/util/ArrayList$Itr" 4) ∈ lw_all := lw_in 1929 (by decide +kernel) (by decide +kernel)
theorem m_1930 : (Cond.methodLink "java/util/ArrayList" 269 ⟨"java/util/ArrayList$Itr", "<init>", "(Ljava/util/ArrayList;)V"⟩) ∈ lw_all := lw_in 1930 (by decide +kernel) (by decide +kernel)
theorem m_1931 : (Cond.instanceMethod ⟨"java/util/ArrayList$Itr", "<init>", "(Ljava/util/ArrayList;)V"⟩) ∈ lw_all := lw_in 1931 (by decide +kernel) (by decide +kernel)
theorem m_1932 : (Cond.code ⟨"java/util/ArrayList$Itr", "<init>", "(Ljava/util/ArrayList;)V"⟩ prog_56_method_1_code 2 (Option.none : Option Jvm.ClassFile.FieldType)) ∈ lw_all := lw_in 1932 (by decide +kernel) (by decide +kernel)
theorem m_1933 : (Cond.methodLink "java/util/ArrayList$Itr" 7 ⟨"java/lang/Object", "<init>", "()V"⟩) ∈ lw_all := lw_in 1933 (by decide +kernel) (by decide +kernel)
theorem m_1934 : (Cond.fieldLink "java/util/ArrayList$Itr" 25 "java/util/ArrayList$Itr" "cursor" "I") ∈ lw_all := lw_in 1934 (by decide +kernel) (by decide +kernel)
theorem m_1935 : (Cond.fieldLink "java/util/ArrayList$Itr" 13 "java/util/ArrayList$Itr" "lastRet" "I") ∈ lw_all := lw_in 1935 (by decide +kernel) (by decide +kernel)
theorem m_1936 : (Cond.fieldLink "java/util/ArrayList$Itr" 22 "java/util/ArrayList$Itr" "expectedModCount" "I") ∈ lw_all := lw_in 1936 (by decide +kernel) (by decide +kernel)
theorem m_1937 : (Cond.fieldLink "java/util/ArrayList$Itr" 1 "java/util/ArrayList$Itr" "this$0" "Ljava/util/ArrayList;") ∈ lw_all := lw_in 1937 (by decide +kernel) (by decide +kernel)
theorem m_1953 : (Cond.classLink "java/util/TreeMap$Values" 13 "java/util/TreeMap$ValueIterator") ∈ lw_all := lw_in 1953 (by decide +kernel) (by decide +kernel)
theorem m_1954 : (Cond.instantiable "java/util/TreeMap$ValueIterator" 4) ∈ lw_all := lw_in 1954 (by decide +kernel) (by decide +kernel)
theorem m_1955 : (Cond.methodLink "java/util/TreeMap$Values" 15 ⟨"java/util/TreeMap", "getFirstEntry", "()Ljava/util/TreeMap$Entry;"⟩) ∈ lw_all := lw_in 1955 (by decide +kernel) (by decide +kernel)
theorem m_1956 : (Cond.instanceMethod ⟨"java/util/TreeMap", "getFirstEntry", "()Ljava/util/TreeMap$Entry;"⟩) ∈ lw_all := lw_in 1956 (by decide +kernel) (by decide +kernel)
theorem m_1957 : (Cond.selects "java/util/TreeMap" ⟨"java/util/TreeMap", "getFirstEntry", "()Ljava/util/TreeMap$Entry;"⟩ ⟨"java/util/TreeMap", "getFirstEntry", "()Ljava/util/TreeMap$Entry;"⟩) ∈ lw_all := lw_in 1957 (by decide +kernel) (by decide +kernel)
theorem m_1958 : (Cond.code ⟨"java/util/TreeMap", "getFirstEntry", "()Ljava/util/TreeMap$Entry;"⟩ prog_75_method_72_code 2 (Option.some (Jvm.ClassFile.FieldType.object "java/util/TreeMap$Entry"))) ∈ lw_all := lw_in 1958 (by decide +kernel) (by decide +kernel)
theorem m_1959 : (Cond.methodLink "java/util/TreeMap$Values" 21 ⟨"java/util/TreeMap$ValueIterator", "<init>", "(Ljava/util/TreeMap;Ljava/util/TreeMap$Entry;)V"⟩) ∈ lw_all := lw_in 1959 (by decide +kernel) (by decide +kernel)
theorem m_1960 : (Cond.instanceMethod ⟨"java/util/TreeMap$ValueIterator", "<init>", "(Ljava/util/TreeMap;Ljava/util/TreeMap$Entry;)V"⟩) ∈ lw_all := lw_in 1960 (by decide +kernel) (by decide +kernel)
theorem m_1961 : (Cond.code ⟨"java/util/TreeMap$ValueIterator", "<init>", "(Ljava/util/TreeMap;Ljava/util/TreeMap$Entry;)V"⟩ prog_78_method_1_code 3 (Option.none : Option Jvm.ClassFile.FieldType)) ∈ lw_all := lw_in 1961 (by decide +kernel) (by decide +kernel)
theorem m_1962 : (Cond.methodLink "java/util/TreeMap$ValueIterator" 1 ⟨"java/util/TreeMap$PrivateEntryIterator", "<init>", "(Ljava/util/TreeMap;Ljava/util/TreeMap$Entry;)V"⟩) ∈ lw_all := lw_in 1962 (by decide +kernel) (by decide +kernel)
theorem m_1963 : (Cond.instanceMethod ⟨"java/util/TreeMap$PrivateEntryIterator", "<init>", "(Ljava/util/TreeMap;Ljava/util/TreeMap$Entry;)V"⟩) ∈ lw_all := lw_in 1963 (by decide +kernel) (by decide +kernel)
theorem m_1964 : (Cond.code ⟨"java/util/TreeMap$PrivateEntryIterator", "<init>", "(Ljava/util/TreeMap;Ljava/util/TreeMap$Entry;)V"⟩ prog_77_method_1_code 3 (Option.none : Option Jvm.ClassFile.FieldType)) ∈ lw_all := lw_in 1964 (by decide +kernel) (by decide +kernel)
theorem m_1965 : (Cond.methodLink "java/util/TreeMap$PrivateEntryIterator" 7 ⟨"java/lang/Object", "<init>", "()V"⟩) ∈ lw_all := lw_in 1965 (by decide +kernel) (by decide +kernel)
theorem m_1966 : (Cond.fieldLink "java/util/TreeMap$PrivateEntryIterator" 26 "java/util/TreeMap$PrivateEntryIterator" "next" "Ljava/util/TreeMap$Entry;") ∈ lw_all := lw_in 1966 (by decide +kernel) (by decide +kernel)
theorem m_1967 : (Cond.fieldLink "java/util/TreeMap$PrivateEntryIterator" 22 "java/util/TreeMap$PrivateEntryIterator" "lastReturned" "Ljava/util/TreeMap$Entry;") ∈ lw_all := lw_in 1967 (by decide +kernel) (by decide +kernel)
theorem m_1968 : (Cond.fieldLink "java/util/TreeMap$PrivateEntryIterator" 19 "java/util/TreeMap$PrivateEntryIterator" "expectedModCount" "I") ∈ lw_all := lw_in 1968 (by decide +kernel) (by decide +kernel)
theorem m_1969 : (Cond.fieldLink "java/util/TreeMap$PrivateEntryIterator" 1 "java/util/TreeMap$PrivateEntryIterator" "this$0" "Ljava/util/TreeMap;") ∈ lw_all := lw_in 1969 (by decide +kernel) (by decide +kernel)
theorem mn_1133 : (Cond.fieldLinkNest "java/util/ArrayList$Itr" 28 "java/util/ArrayList" "size" "I" "java/util/ArrayList") ∈ lw_ng := lw_inn 1133 (by decide +kernel) (by decide +kernel)
theorem mn_1159 : (Cond.fieldLinkNest "java/util/TreeMap$PrivateEntryIterator" 13 "java/util/TreeMap" "modCount" "I" "java/util/TreeMap") ∈ lw_ng := lw_inn 1159 (by decide +kernel) (by decide +kernel)
theorem mn_1587 : (Cond.castable "java/lang/Integer" "java/lang/Comparable") ∈ lw_ng := lw_inn 1587 (by decide +kernel) (by decide +kernel)
theorem va_nil {D : va_G} {cl : List vw_C} {H : Heap} : va_P D cl [] H := fun k q h => by simp at h
theorem va_A_nil {n q : Nat} (h : q < n) : ¬ va_A [] n q := fun z => by
  rcases z with ⟨k, e, hk⟩ | z
  · simp at hk
  · omega
theorem va_P.oldA {D : va_G} {cl : List vw_C} {ws : va_W} {H H1 : Heap} (h : va_P D cl ws H) (hk : ∀ q : Nat, q < H.size → ¬ va_A [] H.size q → H1[q]? = H[q]?) : va_P D cl ws H1 := h.kept (fun k q hq => hk q.1 ((h k q hq).lt) (va_A_nil (h k q hq).lt))
theorem CAL.oldA {D : va_G} {g : Nat → Nat} {F : Nat → Option Nat} {H H1 : Heap} (h : CAL D g F H) (hk : ∀ q : Nat, q < H.size → ¬ va_A [] H.size q → H1[q]? = H[q]?) : CAL D g F H1 := fun k hk2 => by
  obtain ⟨y, h1, h2⟩ := h k hk2
  exact ⟨y, h1, h2.oldA hk⟩
theorem cache_in {x : Int32} (h1 : ¬ x < (-128)) (h2 : ¬ (127 : Int32) < x) : vp_in (x + 128) 256 := by
  rw [vp_in_iff]
  rw [Int32.lt_iff_toInt_lt] at h1 h2
  have e1 : ((-128) : Int32).toInt = -128 := by decide
  have e2 : (127 : Int32).toInt = 127 := by decide
  have e3 : (128 : Int32).toInt = 128 := by decide
  rw [e1] at h1
  rw [e2] at h2
  have e : (x + 128).toInt = x.toInt + 128 := by
    rw [Int32.toInt_add, e3]
    exact Int.bmod_eq_of_le (by omega) (by omega)
  omega

set_option maxHeartbeats 4000000 in
set_option maxRecDepth 100000 in
theorem c_init_AbstractCollection (l : Launch) (z0 : Nat) (D : va_G) (g : Nat → Nat) (b : Nat) : Met l yJxa1e45_init_da8c8 (wsp yJxa1e45_init_da8c8 cJxa1e45_init_da8c8 1 none) ({ frames := 1, cells := 0, slots := 0, locals := 20 }) (va_Pc [.ref b] (PR z0 D g [])) (va_Qv (fun (_ : Unit) => True) (fun _ _ => True) nA) 0 0 nA := by
  refine Met.ofW (cc := cJxa1e45_init_da8c8) (maxL := 1) (ret := none) (by decide) rfl ?_
  intro p e s m args below meth c s₁ B hml hv
  obtain ⟨rfl, hE, hP⟩ := hv
  have hx := B.exec
  have hb := B.bytes
  have hr := B.returns
  have hts0 := atoms_spec (ws := (wsp yJxa1e45_init_da8c8 cJxa1e45_init_da8c8 1 none)) B.pre
  have hts : ∀ w ∈ lw_all, w.before _ s = true := fun w h => hts0 w (List.mem_cons_of_mem _ h)
  have hown : s.vm.findClass "java/util/AbstractCollection" = some m.cls := findClass_of_methodNamed B.named
  have hlocks := B.notSynchronized
  have hin : meth.name = "<init>" := (name_of_methodNamed B.named B.method).1
  have hK := hE.K
  have hS : va_S nA s.heap s.heap [] := va_S.rf
  have hP : va_P D classes [] s.heap := hP
  have hl := lv_entry ([.ref b]) (n := 1) (Nat.le_of_ble_eq_true rfl)
  rw [lg_entry_eq]
  generalize (lg_sl ([.ref b]) ++ List.replicate (1 - (lg_sl ([.ref b])).length) Slot.unset).toArray = ls at hl ⊢
  have hl : lv_has ls 1 [(0, .ref b)] := hl
  refine lv_aload_n hx hb dJxa1e45_init_da8c8_0 rfl (lv_at hl 0 rfl) ?_
  refine W.objInit hx hb hown (hts _ m_1128) (hts _ m_69) (hts _ m_70) rfl (by rw [hml]; exact hl.1) rfl dJxa1e45_init_da8c8_1 (Nat.le_of_ble_eq_true rfl) (Nat.le_of_ble_eq_true rfl) ?_
  refine W.eq (g2 := F0 m 4 ls []) rfl ?_
  refine W.widen (k := 0) (n := 0) (Nat.le_of_ble_eq_true rfl) (Nat.le_of_ble_eq_true rfl) ?_
  exact W.vret hx hb hr (fun t ht hW => ⟨⟨(), rfl, trivial, trivial⟩, hS.F ht⟩) hS.2.2 dJxa1e45_init_da8c8_4

set_option maxHeartbeats 4000000 in
set_option maxRecDepth 100000 in
theorem c_init_AbstractMap (l : Launch) (z0 : Nat) (D : va_G) (g : Nat → Nat) (b : Nat) : Met l yX19_init (wsp yX19_init cX19_init 1 none) ({ frames := 1, cells := 0, slots := 0, locals := 20 }) (va_Pc [.ref b] (PR z0 D g [])) (va_Qv (fun (_ : Unit) => True) (fun _ _ => True) nA) 0 0 nA := by
  refine Met.ofW (cc := cX19_init) (maxL := 1) (ret := none) (by decide) rfl ?_
  intro p e s m args below meth c s₁ B hml hv
  obtain ⟨rfl, hE, hP⟩ := hv
  have hx := B.exec
  have hb := B.bytes
  have hr := B.returns
  have hts0 := atoms_spec (ws := (wsp yX19_init cX19_init 1 none)) B.pre
  have hts : ∀ w ∈ lw_all, w.before _ s = true := fun w h => hts0 w (List.mem_cons_of_mem _ h)
  have hown : s.vm.findClass "java/util/AbstractMap" = some m.cls := findClass_of_methodNamed B.named
  have hlocks := B.notSynchronized
  have hin : meth.name = "<init>" := (name_of_methodNamed B.named B.method).1
  have hK := hE.K
  have hS : va_S nA s.heap s.heap [] := va_S.rf
  have hP : va_P D classes [] s.heap := hP
  have hl := lv_entry ([.ref b]) (n := 1) (Nat.le_of_ble_eq_true rfl)
  rw [lg_entry_eq]
  generalize (lg_sl ([.ref b]) ++ List.replicate (1 - (lg_sl ([.ref b])).length) Slot.unset).toArray = ls at hl ⊢
  have hl : lv_has ls 1 [(0, .ref b)] := hl
  refine lv_aload_n hx hb dX19_init_0 rfl (lv_at hl 0 rfl) ?_
  refine W.objInit hx hb hown (hts _ m_1154) (hts _ m_69) (hts _ m_70) rfl (by rw [hml]; exact hl.1) rfl dX19_init_1 (Nat.le_of_ble_eq_true rfl) (Nat.le_of_ble_eq_true rfl) ?_
  refine W.eq (g2 := F0 m 4 ls []) rfl ?_
  refine W.widen (k := 0) (n := 0) (Nat.le_of_ble_eq_true rfl) (Nat.le_of_ble_eq_true rfl) ?_
  exact W.vret hx hb hr (fun t ht hW => ⟨⟨(), rfl, trivial, trivial⟩, hS.F ht⟩) hS.2.2 dX19_init_4

set_option maxHeartbeats 4000000 in
set_option maxRecDepth 100000 in
theorem c_init_Number (l : Launch) (z0 : Nat) (D : va_G) (g : Nat → Nat) (b : Nat) : Met l yJxd2413_init_da8c8 (wsp yJxd2413_init_da8c8 cJxd2413_init_da8c8 1 none) ({ frames := 1, cells := 0, slots := 0, locals := 20 }) (va_Pc [.ref b] (PR z0 D g [])) (va_Qv (fun (_ : Unit) => True) (fun _ _ => True) nA) 0 0 nA := by
  refine Met.ofW (cc := cJxd2413_init_da8c8) (maxL := 1) (ret := none) (by decide) rfl ?_
  intro p e s m args below meth c s₁ B hml hv
  obtain ⟨rfl, hE, hP⟩ := hv
  have hx := B.exec
  have hb := B.bytes
  have hr := B.returns
  have hts0 := atoms_spec (ws := (wsp yJxd2413_init_da8c8 cJxd2413_init_da8c8 1 none)) B.pre
  have hts : ∀ w ∈ lw_all, w.before _ s = true := fun w h => hts0 w (List.mem_cons_of_mem _ h)
  have hown : s.vm.findClass "java/lang/Number" = some m.cls := findClass_of_methodNamed B.named
  have hlocks := B.notSynchronized
  have hin : meth.name = "<init>" := (name_of_methodNamed B.named B.method).1
  have hK := hE.K
  have hS : va_S nA s.heap s.heap [] := va_S.rf
  have hP : va_P D classes [] s.heap := hP
  have hl := lv_entry ([.ref b]) (n := 1) (Nat.le_of_ble_eq_true rfl)
  rw [lg_entry_eq]
  generalize (lg_sl ([.ref b]) ++ List.replicate (1 - (lg_sl ([.ref b])).length) Slot.unset).toArray = ls at hl ⊢
  have hl : lv_has ls 1 [(0, .ref b)] := hl
  refine lv_aload_n hx hb dJxd2413_init_da8c8_0 rfl (lv_at hl 0 rfl) ?_
  refine W.objInit hx hb hown (hts _ m_1540) (hts _ m_69) (hts _ m_70) rfl (by rw [hml]; exact hl.1) rfl dJxd2413_init_da8c8_1 (Nat.le_of_ble_eq_true rfl) (Nat.le_of_ble_eq_true rfl) ?_
  refine W.eq (g2 := F0 m 4 ls []) rfl ?_
  refine W.widen (k := 0) (n := 0) (Nat.le_of_ble_eq_true rfl) (Nat.le_of_ble_eq_true rfl) ?_
  exact W.vret hx hb hr (fun t ht hW => ⟨⟨(), rfl, trivial, trivial⟩, hS.F ht⟩) hS.2.2 dJxd2413_init_da8c8_4

set_option maxHeartbeats 4000000 in
set_option maxRecDepth 100000 in
theorem c_init_AbstractList (l : Launch) (z0 : Nat) (D : va_G) (g : Nat → Nat) (sz : Nat) (b : Nat) : Met l yJxc12de_init_da8c8 (wsp yJxc12de_init_da8c8 cJxc12de_init_da8c8 1 none) ({ frames := 2, cells := 0, slots := 0, locals := 40 }) (va_Pc [.ref b] (PM z0 D g sz [(b, .inr (10, [.int 0, .null, .int 0]))])) (va_Qv (fun (_ : Unit) => True) (fun (_ : Unit) t => va_P D classes [(b, .inr (10, [.int 0, .null, .int 0]))] t.heap ∧ va_D (va_A [(b, .inr (10, [.int 0, .null, .int 0]))] sz) [(b, .inr (10, [.int 0, .null, .int 0]))]) (va_A [(b, .inr (10, [.int 0, .null, .int 0]))] sz)) 0 0 (va_A [(b, .inr (10, [.int 0, .null, .int 0]))] sz) := by
  refine Met.ofW (cc := cJxc12de_init_da8c8) (maxL := 1) (ret := none) (by decide) rfl ?_
  intro p e s m args below meth c s₁ B hml hv
  obtain ⟨rfl, hsz9, hz0, hE, hP, hD0⟩ := hv
  have hx := B.exec
  have hb := B.bytes
  have hr := B.returns
  have hts0 := atoms_spec (ws := (wsp yJxc12de_init_da8c8 cJxc12de_init_da8c8 1 none)) B.pre
  have hts : ∀ w ∈ lw_all, w.before _ s = true := fun w h => hts0 w (List.mem_cons_of_mem _ h)
  have hown : s.vm.findClass "java/util/AbstractList" = some m.cls := findClass_of_methodNamed B.named
  have hlocks := B.notSynchronized
  have hin : meth.name = "<init>" := (name_of_methodNamed B.named B.method).1
  have hK := hE.K
  subst hsz9
  have hsz := hz0
  have hAz : ∀ q, va_A [(b, .inr (10, [.int 0, .null, .int 0]))] s.heap.size q → z0 ≤ q := vaA_z hz0 hD0
  have hD := hD0.self (sz := s.heap.size)
  generalize hAe : va_A [(b, .inr (10, [.int 0, .null, .int 0]))] s.heap.size = A at hD hAz ⊢
  have hA : ∀ q : Nat, s.heap.size ≤ q → A q := fun q h => by rw [← hAe]; exact Or.inr h
  have hS : va_S A s.heap s.heap [] := va_S.rf
  have hP : va_P D classes [(b, .inr (10, [.int 0, .null, .int 0]))] s.heap := hP
  have hl := lv_entry ([.ref b]) (n := 1) (Nat.le_of_ble_eq_true rfl)
  rw [lg_entry_eq]
  generalize (lg_sl ([.ref b]) ++ List.replicate (1 - (lg_sl ([.ref b])).length) Slot.unset).toArray = ls at hl ⊢
  have hl : lv_has ls 1 [(0, .ref b)] := hl
  refine lv_aload_n hx hb dJxc12de_init_da8c8_0 rfl (lv_at hl 0 rfl) ?_
  refine va_callv (va_runI (As := []) (rest := []) ⟨hx, hb, hml, hown, hts⟩ (c_init_AbstractCollection l z0 D g b) (cwI 0 hts (lw_I m_1127) rfl rfl rfl (hts _ m_13) (hts _ m_1125) (hts _ m_1126) rfl (by decide +kernel) ⟨(Nat.le_of_ble_eq_true rfl), (Nat.le_of_ble_eq_true rfl)⟩) ⟨PR.blind, PR.pre hE hS hAz va_nil⟩ rfl rfl hl.1 rfl (lv_room (Nat.le_of_ble_eq_true rfl)) dJxc12de_init_da8c8_1 ⟨(Nat.le_of_ble_eq_true rfl), (Nat.le_of_ble_eq_true rfl)⟩) hS nA_B nA_A (fun u_3 t H locs ht hvm hw hB hz1 hk1 hS => ?_)
  have hP := hP.old hk1
  have hP : va_P D classes [(b, .inr (10, [.int 0, .null, .int 0]))] H := hP
  refine lv_aload_n hx hb dJxc12de_init_da8c8_4 rfl (lv_at hl 0 rfl) ?_
  refine lv_iconst (v := 0) hx hb dJxc12de_init_da8c8_5 (by decide) ?_
  refine va_put (D := D) (ci := 10) (v := .int 0) (ty := .int) (C := RJx4a65c) (T := TJx4a65c) (N := 3) hx hb hts i_Jx4a65c tyJx4a65c tyJx4a65c_ok nmJx4a65c hown hK hP hD hS 0 rfl rfl 0 (by decide) (hts _ m_1135) (fun _ h9 => h9) rfl (by decide +kernel) rfl rfl (Nat.le_of_ble_eq_true rfl) dJxc12de_init_da8c8_6 (fun H locs hP hD hS => ?_)
  have hP : va_P D classes [(b, .inr (10, [.int 0, .null, .int 0]))] H := hP
  have hD : va_D A [(b, .inr (10, [.int 0, .null, .int 0]))] := hD
  have hP9 := hP.sub (ws' := [(b, .inr (10, [.int 0, .null, .int 0]))]) [0] rfl
  have hD9 := hD.sub (ws' := [(b, .inr (10, [.int 0, .null, .int 0]))]) [0] (by decide) rfl
  refine W.widen (k := 0) (n := 0) (Nat.le_of_ble_eq_true rfl) (Nat.le_of_ble_eq_true rfl) ?_
  exact W.vret hx hb hr (fun t ht hW => ⟨⟨(), rfl, trivial, ⟨by rw [ht]; exact hP9, hD9⟩⟩, hS.F ht⟩) hS.2.2 dJxc12de_init_da8c8_9

set_option maxHeartbeats 4000000 in
set_option maxRecDepth 100000 in
theorem c_init_ArrayList (l : Launch) (z0 : Nat) (D : va_G) (g : Nat → Nat) (sz : Nat) (b : Nat) : Met l yJx4a65c_init_da8c8 (wsp yJx4a65c_init_da8c8 cJx4a65c_init_da8c8 1 none) ({ frames := 3, cells := 0, slots := 0, locals := 60 }) (va_Pc [.ref b] (PM z0 D g sz [(b, .inr (10, [.int 0, .null, .int 0]))])) (va_Qv (fun (_ : Unit) => True) (fun (_ : Unit) t => va_P D classes [(b, .inr (10, [.int 0, .ref (g 4), .int 0]))] t.heap ∧ va_D (va_A [(b, .inr (10, [.int 0, .null, .int 0]))] sz) [(b, .inr (10, [.int 0, .ref (g 4), .int 0]))]) (va_A [(b, .inr (10, [.int 0, .null, .int 0]))] sz)) 0 0 (va_A [(b, .inr (10, [.int 0, .null, .int 0]))] sz) := by
  refine Met.ofW (cc := cJx4a65c_init_da8c8) (maxL := 1) (ret := none) (by decide) rfl ?_
  intro p e s m args below meth c s₁ B hml hv
  obtain ⟨rfl, hsz9, hz0, hE, hP, hD0⟩ := hv
  have hx := B.exec
  have hb := B.bytes
  have hr := B.returns
  have hts0 := atoms_spec (ws := (wsp yJx4a65c_init_da8c8 cJx4a65c_init_da8c8 1 none)) B.pre
  have hts : ∀ w ∈ lw_all, w.before _ s = true := fun w h => hts0 w (List.mem_cons_of_mem _ h)
  have hown : s.vm.findClass "java/util/ArrayList" = some m.cls := findClass_of_methodNamed B.named
  have hlocks := B.notSynchronized
  have hin : meth.name = "<init>" := (name_of_methodNamed B.named B.method).1
  have hK := hE.K
  subst hsz9
  have hsz := hz0
  have hAz : ∀ q, va_A [(b, .inr (10, [.int 0, .null, .int 0]))] s.heap.size q → z0 ≤ q := vaA_z hz0 hD0
  have hD := hD0.self (sz := s.heap.size)
  generalize hAe : va_A [(b, .inr (10, [.int 0, .null, .int 0]))] s.heap.size = A at hD hAz ⊢
  have hA : ∀ q : Nat, s.heap.size ≤ q → A q := fun q h => by rw [← hAe]; exact Or.inr h
  have hS : va_S A s.heap s.heap [] := va_S.rf
  have hP : va_P D classes [(b, .inr (10, [.int 0, .null, .int 0]))] s.heap := hP
  have hl := lv_entry ([.ref b]) (n := 1) (Nat.le_of_ble_eq_true rfl)
  rw [lg_entry_eq]
  generalize (lg_sl ([.ref b]) ++ List.replicate (1 - (lg_sl ([.ref b])).length) Slot.unset).toArray = ls at hl ⊢
  have hl : lv_has ls 1 [(0, .ref b)] := hl
  refine lv_aload_n hx hb dJx4a65c_init_da8c8_0 rfl (lv_at hl 0 rfl) ?_
  have hc_1 := hP.sub (ws' := [(b, .inr (10, [.int 0, .null, .int 0]))]) [0] rfl
  have hc_1D := hD.sub (ws' := [(b, .inr (10, [.int 0, .null, .int 0]))]) [0] (by decide) rfl
  have hc_1F := va_free (wc := [(b, .inr (10, [.int 0, .null, .int 0]))]) hD hS hA [0] rfl
  refine va_callv (va_runI (As := []) (rest := []) ⟨hx, hb, hml, hown, hts⟩ (c_init_AbstractList l z0 D g _ b) (cwI 0 hts (lw_I m_1124) rfl rfl rfl (hts _ m_14) (hts _ m_1122) (hts _ m_1123) rfl (by decide +kernel) ⟨(Nat.le_of_ble_eq_true rfl), (Nat.le_of_ble_eq_true rfl)⟩) ⟨PM.blind, PM.pre hE hS hAz hsz hc_1 hc_1D⟩ rfl rfl hl.1 rfl (lv_room (Nat.le_of_ble_eq_true rfl)) dJx4a65c_init_da8c8_1 ⟨(Nat.le_of_ble_eq_true rfl), (Nat.le_of_ble_eq_true rfl)⟩) hS (fun q _ h => hc_1F q h) hc_1F (fun u_3 t H locs ht hvm hw hB hz1 hk1 hS => ?_)
  obtain ⟨hP1, hD1⟩ := hB
  rw [ht] at hP1
  obtain ⟨hP, hD⟩ := va_join (wr := []) (w1 := [(b, .inr (10, [.int 0, .null, .int 0]))]) hP hD [0] [] rfl rfl (by decide) (by decide) hk1 hc_1F hP1 hD1
  have hP : va_P D classes [(b, .inr (10, [.int 0, .null, .int 0]))] H := hP
  have hD : va_D A [(b, .inr (10, [.int 0, .null, .int 0]))] := hD
  refine lv_aload_n hx hb dJx4a65c_init_da8c8_4 rfl (lv_at hl 0 rfl) ?_
  refine va_gets hx hb (hE.z hAz (i := 4) rfl) hS hown (hts _ m_1129) (fun _ h9 => h9) dJx4a65c_init_da8c8_5 ?_
  refine va_put (D := D) (ci := 10) (v := .ref (g 4)) (ty := (.array (.object "java/lang/Object"))) (C := RJx4a65c) (T := TJx4a65c) (N := 3) hx hb hts i_Jx4a65c tyJx4a65c tyJx4a65c_ok nmJx4a65c hown hK hP hD hS 0 rfl rfl 1 (by decide) (hts _ m_1131) (fun _ h9 => h9) rfl (by decide +kernel) rfl rfl (Nat.le_of_ble_eq_true rfl) dJx4a65c_init_da8c8_8 (fun H locs hP hD hS => ?_)
  have hP : va_P D classes [(b, .inr (10, [.int 0, .ref (g 4), .int 0]))] H := hP
  have hD : va_D A [(b, .inr (10, [.int 0, .ref (g 4), .int 0]))] := hD
  have hP9 := hP.sub (ws' := [(b, .inr (10, [.int 0, .ref (g 4), .int 0]))]) [0] rfl
  have hD9 := hD.sub (ws' := [(b, .inr (10, [.int 0, .ref (g 4), .int 0]))]) [0] (by decide) rfl
  refine W.widen (k := 0) (n := 0) (Nat.le_of_ble_eq_true rfl) (Nat.le_of_ble_eq_true rfl) ?_
  exact W.vret hx hb hr (fun t ht hW => ⟨⟨(), rfl, trivial, ⟨by rw [ht]; exact hP9, hD9⟩⟩, hS.F ht⟩) hS.2.2 dJx4a65c_init_da8c8_11

set_option maxHeartbeats 4000000 in
set_option maxRecDepth 100000 in
theorem c_init_TreeMap (l : Launch) (z0 : Nat) (D : va_G) (g : Nat → Nat) (sz : Nat) (b : Nat) : Met l yX28_init (wsp yX28_init cX28_init 1 none) ({ frames := 2, cells := 0, slots := 0, locals := 40 }) (va_Pc [.ref b] (PM z0 D g sz [(b, .inr (11, [.null, .null, .null, .null, .int 0, .int 0, .null, .null, .null]))])) (va_Qv (fun (_ : Unit) => True) (fun (_ : Unit) t => va_P D classes [(b, .inr (11, [.null, .null, .null, .null, .int 0, .int 0, .null, .null, .null]))] t.heap ∧ va_D (va_A [(b, .inr (11, [.null, .null, .null, .null, .int 0, .int 0, .null, .null, .null]))] sz) [(b, .inr (11, [.null, .null, .null, .null, .int 0, .int 0, .null, .null, .null]))]) (va_A [(b, .inr (11, [.null, .null, .null, .null, .int 0, .int 0, .null, .null, .null]))] sz)) 0 0 (va_A [(b, .inr (11, [.null, .null, .null, .null, .int 0, .int 0, .null, .null, .null]))] sz) := by
  refine Met.ofW (cc := cX28_init) (maxL := 1) (ret := none) (by decide) rfl ?_
  intro p e s m args below meth c s₁ B hml hv
  obtain ⟨rfl, hsz9, hz0, hE, hP, hD0⟩ := hv
  have hx := B.exec
  have hb := B.bytes
  have hr := B.returns
  have hts0 := atoms_spec (ws := (wsp yX28_init cX28_init 1 none)) B.pre
  have hts : ∀ w ∈ lw_all, w.before _ s = true := fun w h => hts0 w (List.mem_cons_of_mem _ h)
  have hown : s.vm.findClass "java/util/TreeMap" = some m.cls := findClass_of_methodNamed B.named
  have hlocks := B.notSynchronized
  have hin : meth.name = "<init>" := (name_of_methodNamed B.named B.method).1
  have hK := hE.K
  subst hsz9
  have hsz := hz0
  have hAz : ∀ q, va_A [(b, .inr (11, [.null, .null, .null, .null, .int 0, .int 0, .null, .null, .null]))] s.heap.size q → z0 ≤ q := vaA_z hz0 hD0
  have hD := hD0.self (sz := s.heap.size)
  generalize hAe : va_A [(b, .inr (11, [.null, .null, .null, .null, .int 0, .int 0, .null, .null, .null]))] s.heap.size = A at hD hAz ⊢
  have hA : ∀ q : Nat, s.heap.size ≤ q → A q := fun q h => by rw [← hAe]; exact Or.inr h
  have hS : va_S A s.heap s.heap [] := va_S.rf
  have hP : va_P D classes [(b, .inr (11, [.null, .null, .null, .null, .int 0, .int 0, .null, .null, .null]))] s.heap := hP
  have hl := lv_entry ([.ref b]) (n := 1) (Nat.le_of_ble_eq_true rfl)
  rw [lg_entry_eq]
  generalize (lg_sl ([.ref b]) ++ List.replicate (1 - (lg_sl ([.ref b])).length) Slot.unset).toArray = ls at hl ⊢
  have hl : lv_has ls 1 [(0, .ref b)] := hl
  refine lv_aload_n hx hb dX28_init_0 rfl (lv_at hl 0 rfl) ?_
  refine va_callv (va_runI (As := []) (rest := []) ⟨hx, hb, hml, hown, hts⟩ (c_init_AbstractMap l z0 D g b) (cwI 0 hts (lw_I m_1153) rfl rfl rfl (hts _ m_16) (hts _ m_1151) (hts _ m_1152) rfl (by decide +kernel) ⟨(Nat.le_of_ble_eq_true rfl), (Nat.le_of_ble_eq_true rfl)⟩) ⟨PR.blind, PR.pre hE hS hAz va_nil⟩ rfl rfl hl.1 rfl (lv_room (Nat.le_of_ble_eq_true rfl)) dX28_init_1 ⟨(Nat.le_of_ble_eq_true rfl), (Nat.le_of_ble_eq_true rfl)⟩) hS nA_B nA_A (fun u_3 t H locs ht hvm hw hB hz1 hk1 hS => ?_)
  have hP := hP.old hk1
  have hP : va_P D classes [(b, .inr (11, [.null, .null, .null, .null, .int 0, .int 0, .null, .null, .null]))] H := hP
  refine lv_aload_n hx hb dX28_init_4 rfl (lv_at hl 0 rfl) ?_
  refine lv_iconst (v := 0) hx hb dX28_init_5 (by decide) ?_
  refine va_put (D := D) (ci := 11) (v := .int 0) (ty := .int) (C := RX28) (T := TX28) (N := 9) hx hb hts i_X28 tyX28 tyX28_ok nmX28 hown hK hP hD hS 0 rfl rfl 4 (by decide) (hts _ m_1157) (fun _ h9 => h9) rfl (by decide +kernel) rfl rfl (Nat.le_of_ble_eq_true rfl) dX28_init_6 (fun H locs hP hD hS => ?_)
  have hP : va_P D classes [(b, .inr (11, [.null, .null, .null, .null, .int 0, .int 0, .null, .null, .null]))] H := hP
  have hD : va_D A [(b, .inr (11, [.null, .null, .null, .null, .int 0, .int 0, .null, .null, .null]))] := hD
  refine lv_aload_n hx hb dX28_init_9 rfl (lv_at hl 0 rfl) ?_
  refine lv_iconst (v := 0) hx hb dX28_init_10 (by decide) ?_
  refine va_put (D := D) (ci := 11) (v := .int 0) (ty := .int) (C := RX28) (T := TX28) (N := 9) hx hb hts i_X28 tyX28 tyX28_ok nmX28 hown hK hP hD hS 0 rfl rfl 5 (by decide) (hts _ m_1158) (fun _ h9 => h9) rfl (by decide +kernel) rfl rfl (Nat.le_of_ble_eq_true rfl) dX28_init_11 (fun H locs hP hD hS => ?_)
  have hP : va_P D classes [(b, .inr (11, [.null, .null, .null, .null, .int 0, .int 0, .null, .null, .null]))] H := hP
  have hD : va_D A [(b, .inr (11, [.null, .null, .null, .null, .int 0, .int 0, .null, .null, .null]))] := hD
  refine lv_aload_n hx hb dX28_init_14 rfl (lv_at hl 0 rfl) ?_
  refine lv_null hx hb dX28_init_15 ?_
  refine va_putF (D := D) (ci := 11) (v := .null) (ty := (.object "java/util/Comparator")) (C := RX28) (T := TX28) (N := 9) hx hb hts i_X28 tyX28 tyX28_ok nmX28 hown hK hP hD hS 0 rfl rfl 2 (by decide) (hts _ m_1155) (fun _ h9 => h9) rfl hin rfl (by decide +kernel) rfl rfl (Nat.le_of_ble_eq_true rfl) dX28_init_16 (fun H locs hP hD hS => ?_)
  have hP : va_P D classes [(b, .inr (11, [.null, .null, .null, .null, .int 0, .int 0, .null, .null, .null]))] H := hP
  have hD : va_D A [(b, .inr (11, [.null, .null, .null, .null, .int 0, .int 0, .null, .null, .null]))] := hD
  have hP9 := hP.sub (ws' := [(b, .inr (11, [.null, .null, .null, .null, .int 0, .int 0, .null, .null, .null]))]) [0] rfl
  have hD9 := hD.sub (ws' := [(b, .inr (11, [.null, .null, .null, .null, .int 0, .int 0, .null, .null, .null]))]) [0] (by decide) rfl
  refine W.widen (k := 0) (n := 0) (Nat.le_of_ble_eq_true rfl) (Nat.le_of_ble_eq_true rfl) ?_
  exact W.vret hx hb hr (fun t ht hW => ⟨⟨(), rfl, trivial, ⟨by rw [ht]; exact hP9, hD9⟩⟩, hS.F ht⟩) hS.2.2 dX28_init_19

set_option maxHeartbeats 4000000 in
set_option maxRecDepth 100000 in
theorem c_init_Integer (l : Launch) (z0 : Nat) (D : va_G) (g : Nat → Nat) (sz : Nat) (b : Nat) (p0 : Int32) : Met l yJ6_init_d00df (wsp yJ6_init_d00df cJ6_init_d00df 2 none) ({ frames := 2, cells := 0, slots := 0, locals := 40 }) (va_Pc [.ref b, .int p0] (PM z0 D g sz [(b, .inr (18, [.int 0]))])) (va_Qv (fun (_ : Unit) => True) (fun (_ : Unit) t => va_P D classes [(b, .inr (18, [.int p0]))] t.heap ∧ va_D (va_A [(b, .inr (18, [.int 0]))] sz) [(b, .inr (18, [.int p0]))]) (va_A [(b, .inr (18, [.int 0]))] sz)) 0 0 (va_A [(b, .inr (18, [.int 0]))] sz) := by
  refine Met.ofW (cc := cJ6_init_d00df) (maxL := 2) (ret := none) (by decide) rfl ?_
  intro p e s m args below meth c s₁ B hml hv
  obtain ⟨rfl, hsz9, hz0, hE, hP, hD0⟩ := hv
  have hx := B.exec
  have hb := B.bytes
  have hr := B.returns
  have hts0 := atoms_spec (ws := (wsp yJ6_init_d00df cJ6_init_d00df 2 none)) B.pre
  have hts : ∀ w ∈ lw_all, w.before _ s = true := fun w h => hts0 w (List.mem_cons_of_mem _ h)
  have hown : s.vm.findClass "java/lang/Integer" = some m.cls := findClass_of_methodNamed B.named
  have hlocks := B.notSynchronized
  have hin : meth.name = "<init>" := (name_of_methodNamed B.named B.method).1
  have hK := hE.K
  subst hsz9
  have hsz := hz0
  have hAz : ∀ q, va_A [(b, .inr (18, [.int 0]))] s.heap.size q → z0 ≤ q := vaA_z hz0 hD0
  have hD := hD0.self (sz := s.heap.size)
  generalize hAe : va_A [(b, .inr (18, [.int 0]))] s.heap.size = A at hD hAz ⊢
  have hA : ∀ q : Nat, s.heap.size ≤ q → A q := fun q h => by rw [← hAe]; exact Or.inr h
  have hS : va_S A s.heap s.heap [] := va_S.rf
  have hP : va_P D classes [(b, .inr (18, [.int 0]))] s.heap := hP
  have hl := lv_entry ([.ref b, .int p0]) (n := 2) (Nat.le_of_ble_eq_true rfl)
  rw [lg_entry_eq]
  generalize (lg_sl ([.ref b, .int p0]) ++ List.replicate (2 - (lg_sl ([.ref b, .int p0])).length) Slot.unset).toArray = ls at hl ⊢
  have hl : lv_has ls 2 [(0, .ref b), (1, .int p0)] := hl
  refine lv_aload_n hx hb dJ6_init_d00df_0 rfl (lv_at hl 0 rfl) ?_
  refine va_callv (va_runI (As := []) (rest := []) ⟨hx, hb, hml, hown, hts⟩ (c_init_Number l z0 D g b) (cwI 0 hts (lw_I m_1539) rfl rfl rfl (hts _ m_37) (hts _ m_1537) (hts _ m_1538) rfl (by decide +kernel) ⟨(Nat.le_of_ble_eq_true rfl), (Nat.le_of_ble_eq_true rfl)⟩) ⟨PR.blind, PR.pre hE hS hAz va_nil⟩ rfl rfl hl.1 rfl (lv_room (Nat.le_of_ble_eq_true rfl)) dJ6_init_d00df_1 ⟨(Nat.le_of_ble_eq_true rfl), (Nat.le_of_ble_eq_true rfl)⟩) hS nA_B nA_A (fun u_3 t H locs ht hvm hw hB hz1 hk1 hS => ?_)
  have hP := hP.old hk1
  have hP : va_P D classes [(b, .inr (18, [.int 0]))] H := hP
  refine lv_aload_n hx hb dJ6_init_d00df_4 rfl (lv_at hl 0 rfl) ?_
  refine lv_iload_n hx hb dJ6_init_d00df_5 rfl (lv_at hl 1 rfl) ?_
  refine va_putF (D := D) (ci := 18) (v := .int p0) (ty := .int) (C := RJ6) (T := TJ6) (N := 1) hx hb hts i_J6 tyJ6 tyJ6_ok nmJ6 hown hK hP hD hS 0 rfl rfl 0 (by decide) (hts _ m_1541) (fun _ h9 => h9) rfl hin rfl (by decide +kernel) rfl rfl (Nat.le_of_ble_eq_true rfl) dJ6_init_d00df_6 (fun H locs hP hD hS => ?_)
  have hP : va_P D classes [(b, .inr (18, [.int p0]))] H := hP
  have hD : va_D A [(b, .inr (18, [.int p0]))] := hD
  have hP9 := hP.sub (ws' := [(b, .inr (18, [.int p0]))]) [0] rfl
  have hD9 := hD.sub (ws' := [(b, .inr (18, [.int p0]))]) [0] (by decide) rfl
  refine W.widen (k := 0) (n := 0) (Nat.le_of_ble_eq_true rfl) (Nat.le_of_ble_eq_true rfl) ?_
  exact W.vret hx hb hr (fun t ht hW => ⟨⟨(), rfl, trivial, ⟨by rw [ht]; exact hP9, hD9⟩⟩, hS.F ht⟩) hS.2.2 dJ6_init_d00df_9

theorem cache_lt {x : Int32} (h : vp_in x 256) : x.toNatClampNeg < 256 := by
  obtain ⟨j, h1, h2⟩ := vp_in_of h (by decide)
  rw [h2]
  show (nI j).toNatClampNeg < 256
  rw [nI_clamp (by omega)]
  exact h1

set_option maxHeartbeats 4000000 in
set_option maxRecDepth 100000 in
theorem c_valueOf (l : Launch) (z0 : Nat) (D : va_G) (g : Nat → Nat) (sz : Nat) (p0 : Int32) : Met l yJ6_valueOf_2dffe (wsp yJ6_valueOf_2dffe cJ6_valueOf_2dffe 1 (some (.object "java/lang/Integer"))) ({ frames := 3, cells := 1, slots := 1, locals := 61 }) (va_Pc [.int p0] (PM z0 D g sz [])) (va_Qr (fun (_ : Unit) => True) (fun _ a t => va_O "java/lang/Integer" a nA t t.heap) (va_A [] sz)) 1 1 (va_A [] sz) := by
  refine Met.ofW (cc := cJ6_valueOf_2dffe) (maxL := 1) (ret := (some (.object "java/lang/Integer"))) (by decide) rfl ?_
  intro p e s m args below meth c s₁ B hml hv
  obtain ⟨rfl, hsz9, hz0, hE, hP, hD0⟩ := hv
  have hx := B.exec
  have hb := B.bytes
  have hr := B.returns
  have hts0 := atoms_spec (ws := (wsp yJ6_valueOf_2dffe cJ6_valueOf_2dffe 1 (some (.object "java/lang/Integer")))) B.pre
  have hts : ∀ w ∈ lw_all, w.before _ s = true := fun w h => hts0 w (List.mem_cons_of_mem _ h)
  have hown : s.vm.findClass "java/lang/Integer" = some m.cls := findClass_of_methodNamed B.named
  have hlocks := B.notSynchronized
  have hK := hE.K
  subst hsz9
  have hsz := hz0
  have hAz : ∀ q, va_A [] s.heap.size q → z0 ≤ q := vaA_z hz0 hD0
  have hD := hD0.self (sz := s.heap.size)
  generalize hAe : va_A [] s.heap.size = A at hD hAz ⊢
  have hA : ∀ q : Nat, s.heap.size ≤ q → A q := fun q h => by rw [← hAe]; exact Or.inr h
  have hS : va_S A s.heap s.heap [] := va_S.rf
  have hP : va_P D classes [] s.heap := hP
  have hl := lv_entry ([.int p0]) (n := 1) (Nat.le_of_ble_eq_true rfl)
  rw [lg_entry_eq]
  generalize (lg_sl ([.int p0]) ++ List.replicate (1 - (lg_sl ([.int p0])).length) Slot.unset).toArray = ls at hl ⊢
  have hl : lv_has ls 1 [(0, .int p0)] := hl
  refine lv_iload_n hx hb dJ6_valueOf_2dffe_0 rfl (lv_at hl 0 rfl) ?_
  refine lv_bipush (v := (-128)) hx hb dJ6_valueOf_2dffe_1 (by decide) ?_
  refine lv_icmp_lt (tgt := 23) hx hb dJ6_valueOf_2dffe_3 (by decide) (fun c_3 => ?_) (fun c_3 => ?_)
  · refine va_new (ci := 18) (fs := [.int 0]) (C := RJ6) (T := TJ6) (N := 1) hx hb hts i_J6 tyJ6 tyJ6_ok hown (hts _ m_1532) (hts _ m_1533) (hts _ m_38) hK hP hD hS hA rfl (fun j hj => by rcases (show j = 0 by omega) with rfl <;> rfl) (Nat.le_of_ble_eq_true rfl) (Nat.le_of_ble_eq_true rfl) dJ6_valueOf_2dffe_23 (fun q_1 H hP hD hS => ?_)
    have hP : va_P D classes [(q_1, .inr (18, [.int 0]))] H := hP
    have hD : va_D A [(q_1, .inr (18, [.int 0]))] := hD
    refine lv_dup hx hb dJ6_valueOf_2dffe_26 rfl ?_
    refine lv_iload_n hx hb dJ6_valueOf_2dffe_27 rfl (lv_at hl 0 rfl) ?_
    have hc_2 := hP.sub (ws' := [(q_1, .inr (18, [.int 0]))]) [0] rfl
    have hc_2D := hD.sub (ws' := [(q_1, .inr (18, [.int 0]))]) [0] (by decide) rfl
    have hc_2F := va_free (wc := [(q_1, .inr (18, [.int 0]))]) hD hS hA [0] rfl
    refine va_callv (va_runI (As := [.int p0]) (rest := [.ref q_1]) ⟨hx, hb, hml, hown, hts⟩ (c_init_Integer l z0 D g _ q_1 p0) (cwI 1 hts (lw_I m_1536) rfl rfl rfl (hts _ m_38) (hts _ m_1534) (hts _ m_1535) rfl (by decide +kernel) ⟨(Nat.le_of_ble_eq_true rfl), (Nat.le_of_ble_eq_true rfl)⟩) ⟨PM.blind, PM.pre hE hS hAz hsz hc_2 hc_2D⟩ rfl rfl hl.1 rfl (lv_room (Nat.le_of_ble_eq_true rfl)) dJ6_valueOf_2dffe_28 ⟨(Nat.le_of_ble_eq_true rfl), (Nat.le_of_ble_eq_true rfl)⟩) hS (fun q _ h => hc_2F q h) hc_2F (fun u_4 t H locs ht hvm hw hB hz1 hk1 hS => ?_)
    obtain ⟨hP1, hD1⟩ := hB
    rw [ht] at hP1
    obtain ⟨hP, hD⟩ := va_join (wr := []) (w1 := [(q_1, .inr (18, [.int p0]))]) hP hD [0] [] rfl rfl (by decide) (by decide) hk1 hc_2F hP1 hD1
    have hP : va_P D classes [(q_1, .inr (18, [.int p0]))] H := hP
    have hD : va_D A [(q_1, .inr (18, [.int p0]))] := hD
    refine W.widen (k := 1) (n := 1) (Nat.le_of_ble_eq_true rfl) (Nat.le_of_ble_eq_true rfl) ?_
    exact W.aret (v := .ref q_1) hx hb hr (by first | exact Or.inl ⟨_, rfl⟩ | exact Or.inr ⟨_, rfl⟩) (Or.inr ⟨_, rfl⟩) (fun t ht hW => ⟨⟨(), q_1, rfl, trivial, O_new (va_recv hK hP (ci := 18) (q0 := 0) rfl rfl) ht hW.alike⟩, hS.F ht⟩) hS.2.2 dJ6_valueOf_2dffe_31
  · refine lv_iload_n hx hb dJ6_valueOf_2dffe_6 rfl (lv_at hl 0 rfl) ?_
    refine va_gets hx hb (hE.z hAz (i := 6) rfl) hS hown (hts _ m_1528) (fun _ h9 => h9) dJ6_valueOf_2dffe_7 ?_
    refine lv_icmp_gt (tgt := 23) hx hb dJ6_valueOf_2dffe_10 (by decide) (fun c_10 => ?_) (fun c_10 => ?_)
    · refine va_new (ci := 18) (fs := [.int 0]) (C := RJ6) (T := TJ6) (N := 1) hx hb hts i_J6 tyJ6 tyJ6_ok hown (hts _ m_1532) (hts _ m_1533) (hts _ m_38) hK hP hD hS hA rfl (fun j hj => by rcases (show j = 0 by omega) with rfl <;> rfl) (Nat.le_of_ble_eq_true rfl) (Nat.le_of_ble_eq_true rfl) dJ6_valueOf_2dffe_23 (fun q_5 H hP hD hS => ?_)
      have hP : va_P D classes [(q_5, .inr (18, [.int 0]))] H := hP
      have hD : va_D A [(q_5, .inr (18, [.int 0]))] := hD
      refine lv_dup hx hb dJ6_valueOf_2dffe_26 rfl ?_
      refine lv_iload_n hx hb dJ6_valueOf_2dffe_27 rfl (lv_at hl 0 rfl) ?_
      have hc_6 := hP.sub (ws' := [(q_5, .inr (18, [.int 0]))]) [0] rfl
      have hc_6D := hD.sub (ws' := [(q_5, .inr (18, [.int 0]))]) [0] (by decide) rfl
      have hc_6F := va_free (wc := [(q_5, .inr (18, [.int 0]))]) hD hS hA [0] rfl
      refine va_callv (va_runI (As := [.int p0]) (rest := [.ref q_5]) ⟨hx, hb, hml, hown, hts⟩ (c_init_Integer l z0 D g _ q_5 p0) (cwI 1 hts (lw_I m_1536) rfl rfl rfl (hts _ m_38) (hts _ m_1534) (hts _ m_1535) rfl (by decide +kernel) ⟨(Nat.le_of_ble_eq_true rfl), (Nat.le_of_ble_eq_true rfl)⟩) ⟨PM.blind, PM.pre hE hS hAz hsz hc_6 hc_6D⟩ rfl rfl hl.1 rfl (lv_room (Nat.le_of_ble_eq_true rfl)) dJ6_valueOf_2dffe_28 ⟨(Nat.le_of_ble_eq_true rfl), (Nat.le_of_ble_eq_true rfl)⟩) hS (fun q _ h => hc_6F q h) hc_6F (fun u_8 t H locs ht hvm hw hB hz1 hk1 hS => ?_)
      obtain ⟨hP1, hD1⟩ := hB
      rw [ht] at hP1
      obtain ⟨hP, hD⟩ := va_join (wr := []) (w1 := [(q_5, .inr (18, [.int p0]))]) hP hD [0] [] rfl rfl (by decide) (by decide) hk1 hc_6F hP1 hD1
      have hP : va_P D classes [(q_5, .inr (18, [.int p0]))] H := hP
      have hD : va_D A [(q_5, .inr (18, [.int p0]))] := hD
      refine W.widen (k := 1) (n := 1) (Nat.le_of_ble_eq_true rfl) (Nat.le_of_ble_eq_true rfl) ?_
      exact W.aret (v := .ref q_5) hx hb hr (by first | exact Or.inl ⟨_, rfl⟩ | exact Or.inr ⟨_, rfl⟩) (Or.inr ⟨_, rfl⟩) (fun t ht hW => ⟨⟨(), q_5, rfl, trivial, O_new (va_recv hK hP (ci := 18) (q0 := 0) rfl rfl) ht hW.alike⟩, hS.F ht⟩) hS.2.2 dJ6_valueOf_2dffe_31
    · refine va_gets hx hb (hE.z hAz (i := 5) rfl) hS hown (hts _ m_1530) (fun _ h9 => h9) dJ6_valueOf_2dffe_13 ?_
      refine lv_iload_n hx hb dJ6_valueOf_2dffe_16 rfl (lv_at hl 0 rfl) ?_
      refine lv_sipush (v := 128) hx hb dJ6_valueOf_2dffe_17 (by decide) ?_
      refine lv_iadd hx hb dJ6_valueOf_2dffe_20 ?_
      have hin9 := cache_in c_3 c_10
      refine vb_tq hx hb (hE.ic hAz) hS hin9 rfl dJ6_valueOf_2dffe_21 ?_
      refine W.widen (k := 1) (n := 1) (Nat.le_of_ble_eq_true rfl) (Nat.le_of_ble_eq_true rfl) ?_
      exact W.aret (v := .ref (g (100 + (p0 + 128).toNatClampNeg))) hx hb hr (by first | exact Or.inl ⟨_, rfl⟩ | exact Or.inr ⟨_, rfl⟩) (Or.inr ⟨_, rfl⟩) (fun t ht hW => ⟨⟨(), (g (100 + (p0 + 128).toNatClampNeg)), rfl, trivial, O_old (hE.io hAz _ (cache_lt hin9)) hS ht hW.alike⟩, hS.F ht⟩) hS.2.2 dJ6_valueOf_2dffe_22

set_option maxHeartbeats 4000000 in
set_option maxRecDepth 100000 in
theorem c_requireNonNull (l : Launch) (z0 : Nat) (D : va_G) (g : Nat → Nat) (k : Nat) : Met l yJ15_requireNonNull_262c5 (wsp yJ15_requireNonNull_262c5 cJ15_requireNonNull_262c5 1 (some (.object "java/lang/Object"))) ({ frames := 0, cells := 0, slots := 0, locals := 0 }) (va_Pc [.ref k] (PR z0 D g [])) (va_Qr (fun (_ : Unit) => True) (fun _ a _ => a = k) nA) 0 0 nA := by
  refine Met.ofW (cc := cJ15_requireNonNull_262c5) (maxL := 1) (ret := (some (.object "java/lang/Object"))) (by decide) rfl ?_
  intro p e s m args below meth c s₁ B hml hv
  obtain ⟨rfl, hE, hP⟩ := hv
  have hx := B.exec
  have hb := B.bytes
  have hr := B.returns
  have hts0 := atoms_spec (ws := (wsp yJ15_requireNonNull_262c5 cJ15_requireNonNull_262c5 1 (some (.object "java/lang/Object")))) B.pre
  have hts : ∀ w ∈ lw_all, w.before _ s = true := fun w h => hts0 w (List.mem_cons_of_mem _ h)
  have hown : s.vm.findClass "java/util/Objects" = some m.cls := findClass_of_methodNamed B.named
  have hlocks := B.notSynchronized
  have hK := hE.K
  have hS : va_S nA s.heap s.heap [] := va_S.rf
  have hP : va_P D classes [] s.heap := hP
  have hl := lv_entry ([.ref k]) (n := 1) (Nat.le_of_ble_eq_true rfl)
  rw [lg_entry_eq]
  generalize (lg_sl ([.ref k]) ++ List.replicate (1 - (lg_sl ([.ref k])).length) Slot.unset).toArray = ls at hl ⊢
  have hl : lv_has ls 1 [(0, .ref k)] := hl
  refine lv_aload_n hx hb dJ15_requireNonNull_262c5_0 rfl (lv_at hl 0 rfl) ?_
  refine lv_ifnonnull (tgt := 12) hx hb dJ15_requireNonNull_262c5_1 (by decide) ?_
  refine lv_aload_n hx hb dJ15_requireNonNull_262c5_12 rfl (lv_at hl 0 rfl) ?_
  refine W.widen (k := 0) (n := 0) (Nat.le_of_ble_eq_true rfl) (Nat.le_of_ble_eq_true rfl) ?_
  exact W.aret (v := .ref k) hx hb hr (by first | exact Or.inl ⟨_, rfl⟩ | exact Or.inr ⟨_, rfl⟩) (Or.inr ⟨_, rfl⟩) (fun t ht hW => ⟨⟨(), k, rfl, trivial, rfl⟩, hS.F ht⟩) hS.2.2 dJ15_requireNonNull_262c5_13

set_option maxHeartbeats 4000000 in
set_option maxRecDepth 100000 in
theorem c_getEntry (l : Launch) (z0 : Nat) (D : va_G) (g : Nat → Nat) (b k : Nat) : Met l yX28_getEntry (wsp yX28_getEntry cX28_getEntry 5 (some (.object "java/util/TreeMap$Entry"))) ({ frames := 1, cells := 0, slots := 0, locals := 20 }) (va_Pc [.ref b, .ref k] (PRO z0 D g [(b, .inr (11, [.null, .null, .null, .null, .int 0, .int 0, .null, .null, .null]))] k)) (va_Qq (fun (r : Option Nat) (_ : Unit) => r = none) (fun _ _ => True) nA) 0 0 nA := by
  refine Met.ofW (cc := cX28_getEntry) (maxL := 5) (ret := (some (.object "java/util/TreeMap$Entry"))) (by decide) rfl ?_
  intro p e s m args below meth c s₁ B hml hv
  obtain ⟨rfl, ⟨hE, hP⟩, hO⟩ := hv
  have hx := B.exec
  have hb := B.bytes
  have hr := B.returns
  have hts0 := atoms_spec (ws := (wsp yX28_getEntry cX28_getEntry 5 (some (.object "java/util/TreeMap$Entry")))) B.pre
  have hts : ∀ w ∈ lw_all, w.before _ s = true := fun w h => hts0 w (List.mem_cons_of_mem _ h)
  have hown : s.vm.findClass "java/util/TreeMap" = some m.cls := findClass_of_methodNamed B.named
  have hlocks := B.notSynchronized
  have hK := hE.K
  have hS : va_S nA s.heap s.heap [] := va_S.rf
  have hP : va_P D classes [(b, .inr (11, [.null, .null, .null, .null, .int 0, .int 0, .null, .null, .null]))] s.heap := hP
  have hl := lv_entry ([.ref b, .ref k]) (n := 5) (Nat.le_of_ble_eq_true rfl)
  rw [lg_entry_eq]
  generalize (lg_sl ([.ref b, .ref k]) ++ List.replicate (5 - (lg_sl ([.ref b, .ref k])).length) Slot.unset).toArray = ls at hl ⊢
  have hl : lv_has ls 5 [(0, .ref b), (1, .ref k)] := hl
  refine lv_aload_n hx hb dX28_getEntry_0 rfl (lv_at hl 0 rfl) ?_
  refine va_get (D := D) (ci := 11) (v := .null) (C := RX28) (T := TX28) (N := 9) hx hb hts i_X28 hown hK hP 0 rfl rfl 2 (by decide) (hts _ m_1155) (fun _ h9 => h9) rfl dX28_getEntry_1 ?_
  refine lv_ifnullN (tgt := 13) hx hb dX28_getEntry_4 (by decide) ?_
  refine lv_aload_n hx hb dX28_getEntry_13 rfl (lv_at hl 1 rfl) ?_
  refine va_callr (va_runS (As := [.ref k]) (rest := []) ⟨hx, hb, hml, hown, hts⟩ (c_requireNonNull l z0 D g k) (va_cwS 1 hts (lw_S m_1561 m_1562 m_31 m_1563) rfl rfl rfl (by decide +kernel) ⟨(Nat.le_of_ble_eq_true rfl), (Nat.le_of_ble_eq_true rfl)⟩) ⟨PR.blind, PR.pre hE hS nA_z va_nil⟩ rfl rfl hl.1 rfl (lv_room (Nat.le_of_ble_eq_true rfl)) dX28_getEntry_14 ⟨(Nat.le_of_ble_eq_true rfl), (Nat.le_of_ble_eq_true rfl)⟩) hS nA_B nA_A (fun u_3 r_2 t H locs ht hvm hw hB hz1 hk1 hS => ?_)
  have hO := O_old2 hO hk1
  have hP := hP.old hk1
  have hP : va_P D classes [(b, .inr (11, [.null, .null, .null, .null, .int 0, .int 0, .null, .null, .null]))] H := hP
  rw [hB]
  refine lv_pop hx hb dX28_getEntry_17 rfl ?_
  refine lv_aload_n hx hb dX28_getEntry_18 rfl (lv_at hl 1 rfl) ?_
  refine va_castY hx hb hown (hts _ m_1564) (hE.ng _ mn_1587) (O_is hO) dX28_getEntry_19 ?_
  refine lv_astore_n (lv' := [(2, .ref k), (0, .ref b), (1, .ref k)]) hx hb dX28_getEntry_22 rfl hl (by decide) rfl (fun ls hl => ?_)
  refine lv_aload_n hx hb dX28_getEntry_23 rfl (lv_at hl 1 rfl) ?_
  refine va_get (D := D) (ci := 11) (v := .null) (C := RX28) (T := TX28) (N := 9) hx hb hts i_X28 hown hK hP 0 rfl rfl 3 (by decide) (hts _ m_1156) (fun _ h9 => h9) rfl dX28_getEntry_24 ?_
  refine lv_astore_nN (lv' := [(3, .null), (2, .ref k), (0, .ref b), (1, .ref k)]) hx hb dX28_getEntry_27 rfl hl (by decide) rfl (fun ls hl => ?_)
  refine lv_aload_nN hx hb dX28_getEntry_28 rfl (lv_at hl 0 rfl) ?_
  refine lv_ifnullN (tgt := 75) hx hb dX28_getEntry_29 (by decide) ?_
  refine lv_null hx hb dX28_getEntry_75 ?_
  refine W.widen (k := 0) (n := 0) (Nat.le_of_ble_eq_true rfl) (Nat.le_of_ble_eq_true rfl) ?_
  exact W.aret (v := .null) hx hb hr (Or.inl ⟨_, rfl⟩) (Or.inl rfl) (fun t ht hW => ⟨⟨none, (), rfl, rfl, trivial⟩, hS.F ht⟩) hS.2.2 dX28_getEntry_76

set_option maxHeartbeats 4000000 in
set_option maxRecDepth 100000 in
theorem c_TMget (l : Launch) (z0 : Nat) (D : va_G) (g : Nat → Nat) (b k : Nat) : Met l yX28_get (wsp yX28_get cX28_get 3 (some (.object "java/lang/Object"))) ({ frames := 2, cells := 0, slots := 0, locals := 44 }) (va_Pc [.ref b, .ref k] (PRO z0 D g [(b, .inr (11, [.null, .null, .null, .null, .int 0, .int 0, .null, .null, .null]))] k)) (va_Qq (fun (r : Option Nat) (_ : Unit) => r = none) (fun _ _ => True) nA) 0 0 nA := by
  refine Met.ofW (cc := cX28_get) (maxL := 3) (ret := (some (.object "java/lang/Object"))) (by decide) rfl ?_
  intro p e s m args below meth c s₁ B hml hv
  obtain ⟨rfl, ⟨hE, hP⟩, hO⟩ := hv
  have hx := B.exec
  have hb := B.bytes
  have hr := B.returns
  have hts0 := atoms_spec (ws := (wsp yX28_get cX28_get 3 (some (.object "java/lang/Object")))) B.pre
  have hts : ∀ w ∈ lw_all, w.before _ s = true := fun w h => hts0 w (List.mem_cons_of_mem _ h)
  have hown : s.vm.findClass "java/util/TreeMap" = some m.cls := findClass_of_methodNamed B.named
  have hlocks := B.notSynchronized
  have hK := hE.K
  have hS : va_S nA s.heap s.heap [] := va_S.rf
  have hP : va_P D classes [(b, .inr (11, [.null, .null, .null, .null, .int 0, .int 0, .null, .null, .null]))] s.heap := hP
  have hl := lv_entry ([.ref b, .ref k]) (n := 3) (Nat.le_of_ble_eq_true rfl)
  rw [lg_entry_eq]
  generalize (lg_sl ([.ref b, .ref k]) ++ List.replicate (3 - (lg_sl ([.ref b, .ref k])).length) Slot.unset).toArray = ls at hl ⊢
  have hl : lv_has ls 3 [(0, .ref b), (1, .ref k)] := hl
  refine lv_aload_n hx hb dX28_get_0 rfl (lv_at hl 0 rfl) ?_
  refine lv_aload_n hx hb dX28_get_1 rfl (lv_at hl 1 rfl) ?_
  have hc_1 := hP.sub (ws' := [(b, .inr (11, [.null, .null, .null, .null, .int 0, .int 0, .null, .null, .null]))]) [0] rfl
  refine va_callq (va_runV (As := [.ref k]) (rest := []) ⟨hx, hb, hml, hown, hts⟩ (c_getEntry l z0 D g b k) (cwV 1 hts (lw_V m_1549 m_1550 m_1551 m_17 m_1552) rfl rfl rfl (by decide +kernel) ⟨(Nat.le_of_ble_eq_true rfl), (Nat.le_of_ble_eq_true rfl)⟩) ⟨PRO.blind, va_recv hK hP (ci := 11) (q0 := 0) rfl rfl, PRO.pre hE hS nA_z hc_1 hO⟩ rfl rfl hl.1 rfl (lv_room (Nat.le_of_ble_eq_true rfl)) dX28_get_2 ⟨(Nat.le_of_ble_eq_true rfl), (Nat.le_of_ble_eq_true rfl)⟩) hS nA_B nA_A (fun r_2 u_3 t H locs ht hvm hw hB hz1 hk1 hS => ?_)
  have hO := O_old2 hO hk1
  have hP := hP.old hk1
  have hP : va_P D classes [(b, .inr (11, [.null, .null, .null, .null, .int 0, .int 0, .null, .null, .null]))] H := hP
  subst hw
  refine W.eq (g2 := F0 m 5 ls [.null]) rfl ?_
  refine lv_astore_nN (lv' := [(2, .null), (0, .ref b), (1, .ref k)]) hx hb dX28_get_5 rfl hl (by decide) rfl (fun ls hl => ?_)
  refine lv_aload_nN hx hb dX28_get_6 rfl (lv_at hl 0 rfl) ?_
  refine lv_ifnonnullN hx hb dX28_get_7 ?_
  refine lv_null hx hb dX28_get_10 ?_
  refine lv_goto (tgt := 18) hx hb dX28_get_11 (by decide) ?_
  refine W.widen (k := 0) (n := 0) (Nat.le_of_ble_eq_true rfl) (Nat.le_of_ble_eq_true rfl) ?_
  exact W.aret (v := .null) hx hb hr (Or.inl ⟨_, rfl⟩) (Or.inl rfl) (fun t ht hW => ⟨⟨none, (), rfl, rfl, trivial⟩, hS.F ht⟩) hS.2.2 dX28_get_18

set_option maxHeartbeats 4000000 in
set_option maxRecDepth 100000 in
theorem c_init_Values (l : Launch) (z0 : Nat) (D : va_G) (g : Nat → Nat) (sz : Nat) (v b : Nat) : Met l yX27_init (wsp yX27_init cX27_init 2 none) ({ frames := 2, cells := 0, slots := 0, locals := 40 }) (va_Pc [.ref v, .ref b] (PM z0 D g sz [(v, .inr (16, [.null]))])) (va_Qv (fun (_ : Unit) => True) (fun (_ : Unit) t => va_P D classes [(v, .inr (16, [.ref b]))] t.heap ∧ va_D (va_A [(v, .inr (16, [.null]))] sz) [(v, .inr (16, [.ref b]))]) (va_A [(v, .inr (16, [.null]))] sz)) 0 0 (va_A [(v, .inr (16, [.null]))] sz) := by
  refine Met.ofW (cc := cX27_init) (maxL := 2) (ret := none) (by decide) rfl ?_
  intro p e s m args below meth c s₁ B hml hv
  obtain ⟨rfl, hsz9, hz0, hE, hP, hD0⟩ := hv
  have hx := B.exec
  have hb := B.bytes
  have hr := B.returns
  have hts0 := atoms_spec (ws := (wsp yX27_init cX27_init 2 none)) B.pre
  have hts : ∀ w ∈ lw_all, w.before _ s = true := fun w h => hts0 w (List.mem_cons_of_mem _ h)
  have hown : s.vm.findClass "java/util/TreeMap$Values" = some m.cls := findClass_of_methodNamed B.named
  have hlocks := B.notSynchronized
  have hin : meth.name = "<init>" := (name_of_methodNamed B.named B.method).1
  have hK := hE.K
  subst hsz9
  have hsz := hz0
  have hAz : ∀ q, va_A [(v, .inr (16, [.null]))] s.heap.size q → z0 ≤ q := vaA_z hz0 hD0
  have hD := hD0.self (sz := s.heap.size)
  generalize hAe : va_A [(v, .inr (16, [.null]))] s.heap.size = A at hD hAz ⊢
  have hA : ∀ q : Nat, s.heap.size ≤ q → A q := fun q h => by rw [← hAe]; exact Or.inr h
  have hS : va_S A s.heap s.heap [] := va_S.rf
  have hP : va_P D classes [(v, .inr (16, [.null]))] s.heap := hP
  have hl := lv_entry ([.ref v, .ref b]) (n := 2) (Nat.le_of_ble_eq_true rfl)
  rw [lg_entry_eq]
  generalize (lg_sl ([.ref v, .ref b]) ++ List.replicate (2 - (lg_sl ([.ref v, .ref b])).length) Slot.unset).toArray = ls at hl ⊢
  have hl : lv_has ls 2 [(0, .ref v), (1, .ref b)] := hl
  refine lv_aload_n hx hb dX27_init_0 rfl (lv_at hl 0 rfl) ?_
  refine lv_aload_n hx hb dX27_init_1 rfl (lv_at hl 1 rfl) ?_
  refine va_putF (D := D) (ci := 16) (v := .ref b) (ty := (.object "java/util/TreeMap")) (C := RX27) (T := TX27) (N := 1) hx hb hts i_X27 tyX27 tyX27_ok nmX27 hown hK hP hD hS 0 rfl rfl 0 (by decide) (hts _ m_1914) (fun _ h9 => h9) rfl hin rfl (by decide +kernel) rfl rfl (Nat.le_of_ble_eq_true rfl) dX27_init_2 (fun H locs hP hD hS => ?_)
  have hP : va_P D classes [(v, .inr (16, [.ref b]))] H := hP
  have hD : va_D A [(v, .inr (16, [.ref b]))] := hD
  refine lv_aload_n hx hb dX27_init_5 rfl (lv_at hl 0 rfl) ?_
  refine va_callv (va_runI (As := []) (rest := []) ⟨hx, hb, hml, hown, hts⟩ (c_init_AbstractCollection l z0 D g v) (cwI 0 hts (lw_I m_1127) rfl rfl rfl (hts _ m_13) (hts _ m_1913) (hts _ m_1126) rfl (by decide +kernel) ⟨(Nat.le_of_ble_eq_true rfl), (Nat.le_of_ble_eq_true rfl)⟩) ⟨PR.blind, PR.pre hE hS hAz va_nil⟩ rfl rfl hl.1 rfl (lv_room (Nat.le_of_ble_eq_true rfl)) dX27_init_6 ⟨(Nat.le_of_ble_eq_true rfl), (Nat.le_of_ble_eq_true rfl)⟩) hS nA_B nA_A (fun u_3 t H locs ht hvm hw hB hz1 hk1 hS => ?_)
  have hP := hP.old hk1
  have hP : va_P D classes [(v, .inr (16, [.ref b]))] H := hP
  have hP9 := hP.sub (ws' := [(v, .inr (16, [.ref b]))]) [0] rfl
  have hD9 := hD.sub (ws' := [(v, .inr (16, [.ref b]))]) [0] (by decide) rfl
  refine W.widen (k := 0) (n := 0) (Nat.le_of_ble_eq_true rfl) (Nat.le_of_ble_eq_true rfl) ?_
  exact W.vret hx hb hr (fun t ht hW => ⟨⟨(), rfl, trivial, ⟨by rw [ht]; exact hP9, hD9⟩⟩, hS.F ht⟩) hS.2.2 dX27_init_9

set_option maxHeartbeats 4000000 in
set_option maxRecDepth 100000 in
theorem c_TMvalues (l : Launch) (z0 : Nat) (D : va_G) (g : Nat → Nat) (sz : Nat) (b : Nat) : Met l yX28_values (wsp yX28_values cX28_values 2 (some (.object "java/util/Collection"))) ({ frames := 3, cells := 1, slots := 1, locals := 61 }) (va_Pc [.ref b] (PM z0 D g sz [(b, .inr (11, [.null, .null, .null, .null, .int 0, .int 0, .null, .null, .null]))])) (va_Qr (fun (_ : Unit) => True) (fun _ a t => va_P D classes [(b, .inr (11, [.null, .ref a, .null, .null, .int 0, .int 0, .null, .null, .null])), (a, .inr (16, [.ref b]))] t.heap ∧ va_D (va_A [(b, .inr (11, [.null, .null, .null, .null, .int 0, .int 0, .null, .null, .null]))] sz) [(b, .inr (11, [.null, .ref a, .null, .null, .int 0, .int 0, .null, .null, .null])), (a, .inr (16, [.ref b]))]) (va_A [(b, .inr (11, [.null, .null, .null, .null, .int 0, .int 0, .null, .null, .null]))] sz)) 1 1 (va_A [(b, .inr (11, [.null, .null, .null, .null, .int 0, .int 0, .null, .null, .null]))] sz) := by
  refine Met.ofW (cc := cX28_values) (maxL := 2) (ret := (some (.object "java/util/Collection"))) (by decide) rfl ?_
  intro p e s m args below meth c s₁ B hml hv
  obtain ⟨rfl, hsz9, hz0, hE, hP, hD0⟩ := hv
  have hx := B.exec
  have hb := B.bytes
  have hr := B.returns
  have hts0 := atoms_spec (ws := (wsp yX28_values cX28_values 2 (some (.object "java/util/Collection")))) B.pre
  have hts : ∀ w ∈ lw_all, w.before _ s = true := fun w h => hts0 w (List.mem_cons_of_mem _ h)
  have hown : s.vm.findClass "java/util/TreeMap" = some m.cls := findClass_of_methodNamed B.named
  have hlocks := B.notSynchronized
  have hK := hE.K
  subst hsz9
  have hsz := hz0
  have hAz : ∀ q, va_A [(b, .inr (11, [.null, .null, .null, .null, .int 0, .int 0, .null, .null, .null]))] s.heap.size q → z0 ≤ q := vaA_z hz0 hD0
  have hD := hD0.self (sz := s.heap.size)
  generalize hAe : va_A [(b, .inr (11, [.null, .null, .null, .null, .int 0, .int 0, .null, .null, .null]))] s.heap.size = A at hD hAz ⊢
  have hA : ∀ q : Nat, s.heap.size ≤ q → A q := fun q h => by rw [← hAe]; exact Or.inr h
  have hS : va_S A s.heap s.heap [] := va_S.rf
  have hP : va_P D classes [(b, .inr (11, [.null, .null, .null, .null, .int 0, .int 0, .null, .null, .null]))] s.heap := hP
  have hl := lv_entry ([.ref b]) (n := 2) (Nat.le_of_ble_eq_true rfl)
  rw [lg_entry_eq]
  generalize (lg_sl ([.ref b]) ++ List.replicate (2 - (lg_sl ([.ref b])).length) Slot.unset).toArray = ls at hl ⊢
  have hl : lv_has ls 2 [(0, .ref b)] := hl
  refine lv_aload_n hx hb dX28_values_0 rfl (lv_at hl 0 rfl) ?_
  refine va_get (D := D) (ci := 11) (v := .null) (C := RX28) (T := TX28) (N := 9) hx hb hts i_X28 hown hK hP 0 rfl rfl 1 (by decide) (hts _ m_1160) (u_same (hts _ m_1161)) rfl dX28_values_1 ?_
  refine lv_astore_nN (lv' := [(1, .null), (0, .ref b)]) hx hb dX28_values_4 rfl hl (by decide) rfl (fun ls hl => ?_)
  refine lv_aload_nN hx hb dX28_values_5 rfl (lv_at hl 0 rfl) ?_
  refine lv_ifnonnullN hx hb dX28_values_6 ?_
  refine va_new (ci := 16) (fs := [.null]) (C := RX27) (T := TX27) (N := 1) hx hb hts i_X27 tyX27 tyX27_ok hown (hts _ m_1908) (hts _ m_1909) (hts _ m_47) hK hP hD hS hA rfl (fun j hj => by rcases (show j = 0 by omega) with rfl <;> rfl) (Nat.le_of_ble_eq_true rfl) (Nat.le_of_ble_eq_true rfl) dX28_values_9 (fun q_1 H hP hD hS => ?_)
  have hP : va_P D classes [(b, .inr (11, [.null, .null, .null, .null, .int 0, .int 0, .null, .null, .null])), (q_1, .inr (16, [.null]))] H := hP
  have hD : va_D A [(b, .inr (11, [.null, .null, .null, .null, .int 0, .int 0, .null, .null, .null])), (q_1, .inr (16, [.null]))] := hD
  refine lv_dup hx hb dX28_values_12 rfl ?_
  refine lv_aload_n hx hb dX28_values_13 rfl (lv_at hl 1 rfl) ?_
  have hc_2 := hP.sub (ws' := [(q_1, .inr (16, [.null]))]) [1] rfl
  have hc_2D := hD.sub (ws' := [(q_1, .inr (16, [.null]))]) [1] (by decide) rfl
  have hc_2F := va_free (wc := [(q_1, .inr (16, [.null]))]) hD hS hA [1] rfl
  refine va_callv (va_runI (As := [.ref b]) (rest := [.ref q_1]) ⟨hx, hb, hml, hown, hts⟩ (c_init_Values l z0 D g _ q_1 b) (cwI 1 hts (lw_I m_1912) rfl rfl rfl (hts _ m_47) (hts _ m_1910) (hts _ m_1911) rfl (by decide +kernel) ⟨(Nat.le_of_ble_eq_true rfl), (Nat.le_of_ble_eq_true rfl)⟩) ⟨PM.blind, PM.pre hE hS hAz hsz hc_2 hc_2D⟩ rfl rfl hl.1 rfl (lv_room (Nat.le_of_ble_eq_true rfl)) dX28_values_14 ⟨(Nat.le_of_ble_eq_true rfl), (Nat.le_of_ble_eq_true rfl)⟩) hS (fun q _ h => hc_2F q h) hc_2F (fun u_4 t H locs ht hvm hw hB hz1 hk1 hS => ?_)
  obtain ⟨hP1, hD1⟩ := hB
  rw [ht] at hP1
  obtain ⟨hP, hD⟩ := va_join (wr := [(b, .inr (11, [.null, .null, .null, .null, .int 0, .int 0, .null, .null, .null]))]) (w1 := [(q_1, .inr (16, [.ref b]))]) hP hD [1] [0] rfl rfl (by decide) (by decide) hk1 hc_2F hP1 hD1
  have hP : va_P D classes [(b, .inr (11, [.null, .null, .null, .null, .int 0, .int 0, .null, .null, .null])), (q_1, .inr (16, [.ref b]))] H := hP
  have hD : va_D A [(b, .inr (11, [.null, .null, .null, .null, .int 0, .int 0, .null, .null, .null])), (q_1, .inr (16, [.ref b]))] := hD
  refine lv_astore_n (lv' := [(1, .ref q_1), (0, .ref b)]) hx hb dX28_values_17 rfl hl (by decide) rfl (fun ls hl => ?_)
  refine lv_aload_n hx hb dX28_values_18 rfl (lv_at hl 1 rfl) ?_
  refine lv_aload_n hx hb dX28_values_19 rfl (lv_at hl 0 rfl) ?_
  refine va_put (D := D) (ci := 11) (v := .ref q_1) (ty := (.object "java/util/Collection")) (C := RX28) (T := TX28) (N := 9) hx hb hts i_X28 tyX28 tyX28_ok nmX28 hown hK hP hD hS 0 rfl rfl 1 (by decide) (hts _ m_1160) (u_same (hts _ m_1161)) rfl (by decide +kernel) rfl rfl (Nat.le_of_ble_eq_true rfl) dX28_values_20 (fun H locs hP hD hS => ?_)
  have hP : va_P D classes [(b, .inr (11, [.null, .ref q_1, .null, .null, .int 0, .int 0, .null, .null, .null])), (q_1, .inr (16, [.ref b]))] H := hP
  have hD : va_D A [(b, .inr (11, [.null, .ref q_1, .null, .null, .int 0, .int 0, .null, .null, .null])), (q_1, .inr (16, [.ref b]))] := hD
  refine lv_aload_n hx hb dX28_values_23 rfl (lv_at hl 0 rfl) ?_
  have hP9 := hP.sub (ws' := [(b, .inr (11, [.null, .ref q_1, .null, .null, .int 0, .int 0, .null, .null, .null])), (q_1, .inr (16, [.ref b]))]) [0, 1] rfl
  have hD9 := hD.sub (ws' := [(b, .inr (11, [.null, .ref q_1, .null, .null, .int 0, .int 0, .null, .null, .null])), (q_1, .inr (16, [.ref b]))]) [0, 1] (by decide) rfl
  refine W.widen (k := 1) (n := 1) (Nat.le_of_ble_eq_true rfl) (Nat.le_of_ble_eq_true rfl) ?_
  exact W.aret (v := .ref q_1) hx hb hr (by first | exact Or.inl ⟨_, rfl⟩ | exact Or.inr ⟨_, rfl⟩) (Or.inr ⟨_, rfl⟩) (fun t ht hW => ⟨⟨(), q_1, rfl, trivial, ⟨by rw [ht]; exact hP9, hD9⟩⟩, hS.F ht⟩) hS.2.2 dX28_values_24

set_option maxHeartbeats 4000000 in
set_option maxRecDepth 100000 in
theorem c_init_PEI (l : Launch) (z0 : Nat) (D : va_G) (g : Nat → Nat) (sz : Nat) (i b v : Nat) : Met l yX25_init (wsp yX25_init cX25_init 3 none) ({ frames := 1, cells := 0, slots := 0, locals := 20 }) (va_Pc [.ref i, .ref b, .null] (PM z0 D g sz [(i, .inr (17, [.null, .null, .int 0, .null])), (b, .inr (11, [.null, .ref v, .null, .null, .int 0, .int 0, .null, .null, .null]))])) (va_Qv (fun (_ : Unit) => True) (fun (_ : Unit) t => va_P D classes [(i, .inr (17, [.null, .null, .int 0, .ref b])), (b, .inr (11, [.null, .ref v, .null, .null, .int 0, .int 0, .null, .null, .null]))] t.heap ∧ va_D (va_A [(i, .inr (17, [.null, .null, .int 0, .null])), (b, .inr (11, [.null, .ref v, .null, .null, .int 0, .int 0, .null, .null, .null]))] sz) [(i, .inr (17, [.null, .null, .int 0, .ref b])), (b, .inr (11, [.null, .ref v, .null, .null, .int 0, .int 0, .null, .null, .null]))]) (va_A [(i, .inr (17, [.null, .null, .int 0, .null])), (b, .inr (11, [.null, .ref v, .null, .null, .int 0, .int 0, .null, .null, .null]))] sz)) 0 0 (va_A [(i, .inr (17, [.null, .null, .int 0, .null])), (b, .inr (11, [.null, .ref v, .null, .null, .int 0, .int 0, .null, .null, .null]))] sz) := by
  refine Met.ofW (cc := cX25_init) (maxL := 3) (ret := none) (by decide) rfl ?_
  intro p e s m args below meth c s₁ B hml hv
  obtain ⟨rfl, hsz9, hz0, hE, hP, hD0⟩ := hv
  have hx := B.exec
  have hb := B.bytes
  have hr := B.returns
  have hts0 := atoms_spec (ws := (wsp yX25_init cX25_init 3 none)) B.pre
  have hts : ∀ w ∈ lw_all, w.before _ s = true := fun w h => hts0 w (List.mem_cons_of_mem _ h)
  have hown : s.vm.findClass "java/util/TreeMap$PrivateEntryIterator" = some m.cls := findClass_of_methodNamed B.named
  have hlocks := B.notSynchronized
  have hin : meth.name = "<init>" := (name_of_methodNamed B.named B.method).1
  have hK := hE.K
  subst hsz9
  have hsz := hz0
  have hAz : ∀ q, va_A [(i, .inr (17, [.null, .null, .int 0, .null])), (b, .inr (11, [.null, .ref v, .null, .null, .int 0, .int 0, .null, .null, .null]))] s.heap.size q → z0 ≤ q := vaA_z hz0 hD0
  have hD := hD0.self (sz := s.heap.size)
  generalize hAe : va_A [(i, .inr (17, [.null, .null, .int 0, .null])), (b, .inr (11, [.null, .ref v, .null, .null, .int 0, .int 0, .null, .null, .null]))] s.heap.size = A at hD hAz ⊢
  have hA : ∀ q : Nat, s.heap.size ≤ q → A q := fun q h => by rw [← hAe]; exact Or.inr h
  have hS : va_S A s.heap s.heap [] := va_S.rf
  have hP : va_P D classes [(i, .inr (17, [.null, .null, .int 0, .null])), (b, .inr (11, [.null, .ref v, .null, .null, .int 0, .int 0, .null, .null, .null]))] s.heap := hP
  have hl := lv_entry ([.ref i, .ref b, .null]) (n := 3) (Nat.le_of_ble_eq_true rfl)
  rw [lg_entry_eq]
  generalize (lg_sl ([.ref i, .ref b, .null]) ++ List.replicate (3 - (lg_sl ([.ref i, .ref b, .null])).length) Slot.unset).toArray = ls at hl ⊢
  have hl : lv_has ls 3 [(0, .ref i), (1, .ref b), (2, .null)] := hl
  refine lv_aload_n hx hb dX25_init_0 rfl (lv_at hl 0 rfl) ?_
  refine lv_aload_n hx hb dX25_init_1 rfl (lv_at hl 1 rfl) ?_
  refine va_putF (D := D) (ci := 17) (v := .ref b) (ty := (.object "java/util/TreeMap")) (C := RX26) (T := TX26) (N := 4) hx hb hts i_X26 tyX26 tyX26_ok nmX26 hown hK hP hD hS 0 rfl rfl 3 (by decide) (hts _ m_1969) (fun _ h9 => h9) rfl hin rfl (by decide +kernel) rfl rfl (Nat.le_of_ble_eq_true rfl) dX25_init_2 (fun H locs hP hD hS => ?_)
  have hP : va_P D classes [(i, .inr (17, [.null, .null, .int 0, .ref b])), (b, .inr (11, [.null, .ref v, .null, .null, .int 0, .int 0, .null, .null, .null]))] H := hP
  have hD : va_D A [(i, .inr (17, [.null, .null, .int 0, .ref b])), (b, .inr (11, [.null, .ref v, .null, .null, .int 0, .int 0, .null, .null, .null]))] := hD
  refine lv_aload_n hx hb dX25_init_5 rfl (lv_at hl 0 rfl) ?_
  refine W.objInit hx hb hown (hts _ m_1965) (hts _ m_69) (hts _ m_70) rfl (by rw [hml]; exact hl.1) rfl dX25_init_6 (Nat.le_of_ble_eq_true rfl) (Nat.le_of_ble_eq_true rfl) ?_
  refine W.eq (g2 := F0 m 9 ls []) rfl ?_
  refine lv_aload_n hx hb dX25_init_9 rfl (lv_at hl 0 rfl) ?_
  refine lv_aload_n hx hb dX25_init_10 rfl (lv_at hl 1 rfl) ?_
  refine va_getN (D := D) (ci := 11) (v := .int 0) (C := RX28) (T := TX28) (N := 9) hx hb hts i_X28 hown hK hP 1 rfl rfl 5 (by decide) (va_Nw.use rfl (hE.ng _ mn_1159)) (fun _ h9 => h9) rfl dX25_init_11 ?_
  refine va_put (D := D) (ci := 17) (v := .int 0) (ty := .int) (C := RX26) (T := TX26) (N := 4) hx hb hts i_X26 tyX26 tyX26_ok nmX26 hown hK hP hD hS 0 rfl rfl 2 (by decide) (hts _ m_1968) (fun _ h9 => h9) rfl (by decide +kernel) rfl rfl (Nat.le_of_ble_eq_true rfl) dX25_init_14 (fun H locs hP hD hS => ?_)
  have hP : va_P D classes [(i, .inr (17, [.null, .null, .int 0, .ref b])), (b, .inr (11, [.null, .ref v, .null, .null, .int 0, .int 0, .null, .null, .null]))] H := hP
  have hD : va_D A [(i, .inr (17, [.null, .null, .int 0, .ref b])), (b, .inr (11, [.null, .ref v, .null, .null, .int 0, .int 0, .null, .null, .null]))] := hD
  refine lv_aload_n hx hb dX25_init_17 rfl (lv_at hl 0 rfl) ?_
  refine lv_null hx hb dX25_init_18 ?_
  refine va_put (D := D) (ci := 17) (v := .null) (ty := (.object "java/util/TreeMap$Entry")) (C := RX26) (T := TX26) (N := 4) hx hb hts i_X26 tyX26 tyX26_ok nmX26 hown hK hP hD hS 0 rfl rfl 1 (by decide) (hts _ m_1967) (fun _ h9 => h9) rfl (by decide +kernel) rfl rfl (Nat.le_of_ble_eq_true rfl) dX25_init_19 (fun H locs hP hD hS => ?_)
  have hP : va_P D classes [(i, .inr (17, [.null, .null, .int 0, .ref b])), (b, .inr (11, [.null, .ref v, .null, .null, .int 0, .int 0, .null, .null, .null]))] H := hP
  have hD : va_D A [(i, .inr (17, [.null, .null, .int 0, .ref b])), (b, .inr (11, [.null, .ref v, .null, .null, .int 0, .int 0, .null, .null, .null]))] := hD
  refine lv_aload_n hx hb dX25_init_22 rfl (lv_at hl 0 rfl) ?_
  refine lv_aload_nN hx hb dX25_init_23 rfl (lv_at hl 2 rfl) ?_
  refine va_put (D := D) (ci := 17) (v := .null) (ty := (.object "java/util/TreeMap$Entry")) (C := RX26) (T := TX26) (N := 4) hx hb hts i_X26 tyX26 tyX26_ok nmX26 hown hK hP hD hS 0 rfl rfl 0 (by decide) (hts _ m_1966) (fun _ h9 => h9) rfl (by decide +kernel) rfl rfl (Nat.le_of_ble_eq_true rfl) dX25_init_24 (fun H locs hP hD hS => ?_)
  have hP : va_P D classes [(i, .inr (17, [.null, .null, .int 0, .ref b])), (b, .inr (11, [.null, .ref v, .null, .null, .int 0, .int 0, .null, .null, .null]))] H := hP
  have hD : va_D A [(i, .inr (17, [.null, .null, .int 0, .ref b])), (b, .inr (11, [.null, .ref v, .null, .null, .int 0, .int 0, .null, .null, .null]))] := hD
  have hP9 := hP.sub (ws' := [(i, .inr (17, [.null, .null, .int 0, .ref b])), (b, .inr (11, [.null, .ref v, .null, .null, .int 0, .int 0, .null, .null, .null]))]) [0, 1] rfl
  have hD9 := hD.sub (ws' := [(i, .inr (17, [.null, .null, .int 0, .ref b])), (b, .inr (11, [.null, .ref v, .null, .null, .int 0, .int 0, .null, .null, .null]))]) [0, 1] (by decide) rfl
  refine W.widen (k := 0) (n := 0) (Nat.le_of_ble_eq_true rfl) (Nat.le_of_ble_eq_true rfl) ?_
  exact W.vret hx hb hr (fun t ht hW => ⟨⟨(), rfl, trivial, ⟨by rw [ht]; exact hP9, hD9⟩⟩, hS.F ht⟩) hS.2.2 dX25_init_27

set_option maxHeartbeats 4000000 in
set_option maxRecDepth 100000 in
theorem c_init_VI (l : Launch) (z0 : Nat) (D : va_G) (g : Nat → Nat) (sz : Nat) (i b v : Nat) : Met l yX26_init (wsp yX26_init cX26_init 3 none) ({ frames := 2, cells := 0, slots := 0, locals := 42 }) (va_Pc [.ref i, .ref b, .null] (PM z0 D g sz [(i, .inr (17, [.null, .null, .int 0, .null])), (b, .inr (11, [.null, .ref v, .null, .null, .int 0, .int 0, .null, .null, .null]))])) (va_Qv (fun (_ : Unit) => True) (fun (_ : Unit) t => va_P D classes [(i, .inr (17, [.null, .null, .int 0, .ref b])), (b, .inr (11, [.null, .ref v, .null, .null, .int 0, .int 0, .null, .null, .null]))] t.heap ∧ va_D (va_A [(i, .inr (17, [.null, .null, .int 0, .null])), (b, .inr (11, [.null, .ref v, .null, .null, .int 0, .int 0, .null, .null, .null]))] sz) [(i, .inr (17, [.null, .null, .int 0, .ref b])), (b, .inr (11, [.null, .ref v, .null, .null, .int 0, .int 0, .null, .null, .null]))]) (va_A [(i, .inr (17, [.null, .null, .int 0, .null])), (b, .inr (11, [.null, .ref v, .null, .null, .int 0, .int 0, .null, .null, .null]))] sz)) 0 0 (va_A [(i, .inr (17, [.null, .null, .int 0, .null])), (b, .inr (11, [.null, .ref v, .null, .null, .int 0, .int 0, .null, .null, .null]))] sz) := by
  refine Met.ofW (cc := cX26_init) (maxL := 3) (ret := none) (by decide) rfl ?_
  intro p e s m args below meth c s₁ B hml hv
  obtain ⟨rfl, hsz9, hz0, hE, hP, hD0⟩ := hv
  have hx := B.exec
  have hb := B.bytes
  have hr := B.returns
  have hts0 := atoms_spec (ws := (wsp yX26_init cX26_init 3 none)) B.pre
  have hts : ∀ w ∈ lw_all, w.before _ s = true := fun w h => hts0 w (List.mem_cons_of_mem _ h)
  have hown : s.vm.findClass "java/util/TreeMap$ValueIterator" = some m.cls := findClass_of_methodNamed B.named
  have hlocks := B.notSynchronized
  have hin : meth.name = "<init>" := (name_of_methodNamed B.named B.method).1
  have hK := hE.K
  subst hsz9
  have hsz := hz0
  have hAz : ∀ q, va_A [(i, .inr (17, [.null, .null, .int 0, .null])), (b, .inr (11, [.null, .ref v, .null, .null, .int 0, .int 0, .null, .null, .null]))] s.heap.size q → z0 ≤ q := vaA_z hz0 hD0
  have hD := hD0.self (sz := s.heap.size)
  generalize hAe : va_A [(i, .inr (17, [.null, .null, .int 0, .null])), (b, .inr (11, [.null, .ref v, .null, .null, .int 0, .int 0, .null, .null, .null]))] s.heap.size = A at hD hAz ⊢
  have hA : ∀ q : Nat, s.heap.size ≤ q → A q := fun q h => by rw [← hAe]; exact Or.inr h
  have hS : va_S A s.heap s.heap [] := va_S.rf
  have hP : va_P D classes [(i, .inr (17, [.null, .null, .int 0, .null])), (b, .inr (11, [.null, .ref v, .null, .null, .int 0, .int 0, .null, .null, .null]))] s.heap := hP
  have hl := lv_entry ([.ref i, .ref b, .null]) (n := 3) (Nat.le_of_ble_eq_true rfl)
  rw [lg_entry_eq]
  generalize (lg_sl ([.ref i, .ref b, .null]) ++ List.replicate (3 - (lg_sl ([.ref i, .ref b, .null])).length) Slot.unset).toArray = ls at hl ⊢
  have hl : lv_has ls 3 [(0, .ref i), (1, .ref b), (2, .null)] := hl
  refine lv_aload_n hx hb dX26_init_0 rfl (lv_at hl 0 rfl) ?_
  refine lv_aload_n hx hb dX26_init_1 rfl (lv_at hl 1 rfl) ?_
  refine lv_aload_nN hx hb dX26_init_2 rfl (lv_at hl 2 rfl) ?_
  have hc_1 := hP.sub (ws' := [(i, .inr (17, [.null, .null, .int 0, .null])), (b, .inr (11, [.null, .ref v, .null, .null, .int 0, .int 0, .null, .null, .null]))]) [0, 1] rfl
  have hc_1D := hD.sub (ws' := [(i, .inr (17, [.null, .null, .int 0, .null])), (b, .inr (11, [.null, .ref v, .null, .null, .int 0, .int 0, .null, .null, .null]))]) [0, 1] (by decide) rfl
  have hc_1F := va_free (wc := [(i, .inr (17, [.null, .null, .int 0, .null])), (b, .inr (11, [.null, .ref v, .null, .null, .int 0, .int 0, .null, .null, .null]))]) hD hS hA [0, 1] rfl
  refine va_callv (va_runI (As := [.ref b, .null]) (rest := []) ⟨hx, hb, hml, hown, hts⟩ (c_init_PEI l z0 D g _ i b v) (cwI 2 hts (lw_I m_1964) rfl rfl rfl (hts _ m_49) (hts _ m_1962) (hts _ m_1963) rfl (by decide +kernel) ⟨(Nat.le_of_ble_eq_true rfl), (Nat.le_of_ble_eq_true rfl)⟩) ⟨PM.blind, PM.pre hE hS hAz hsz hc_1 hc_1D⟩ rfl rfl hl.1 rfl (lv_room (Nat.le_of_ble_eq_true rfl)) dX26_init_3 ⟨(Nat.le_of_ble_eq_true rfl), (Nat.le_of_ble_eq_true rfl)⟩) hS (fun q _ h => hc_1F q h) hc_1F (fun u_3 t H locs ht hvm hw hB hz1 hk1 hS => ?_)
  obtain ⟨hP1, hD1⟩ := hB
  rw [ht] at hP1
  obtain ⟨hP, hD⟩ := va_join (wr := []) (w1 := [(i, .inr (17, [.null, .null, .int 0, .ref b])), (b, .inr (11, [.null, .ref v, .null, .null, .int 0, .int 0, .null, .null, .null]))]) hP hD [0, 1] [] rfl rfl (by decide) (by decide) hk1 hc_1F hP1 hD1
  have hP : va_P D classes [(i, .inr (17, [.null, .null, .int 0, .ref b])), (b, .inr (11, [.null, .ref v, .null, .null, .int 0, .int 0, .null, .null, .null]))] H := hP
  have hD : va_D A [(i, .inr (17, [.null, .null, .int 0, .ref b])), (b, .inr (11, [.null, .ref v, .null, .null, .int 0, .int 0, .null, .null, .null]))] := hD
  have hP9 := hP.sub (ws' := [(i, .inr (17, [.null, .null, .int 0, .ref b])), (b, .inr (11, [.null, .ref v, .null, .null, .int 0, .int 0, .null, .null, .null]))]) [0, 1] rfl
  have hD9 := hD.sub (ws' := [(i, .inr (17, [.null, .null, .int 0, .ref b])), (b, .inr (11, [.null, .ref v, .null, .null, .int 0, .int 0, .null, .null, .null]))]) [0, 1] (by decide) rfl
  refine W.widen (k := 0) (n := 0) (Nat.le_of_ble_eq_true rfl) (Nat.le_of_ble_eq_true rfl) ?_
  exact W.vret hx hb hr (fun t ht hW => ⟨⟨(), rfl, trivial, ⟨by rw [ht]; exact hP9, hD9⟩⟩, hS.F ht⟩) hS.2.2 dX26_init_6

set_option maxHeartbeats 4000000 in
set_option maxRecDepth 100000 in
theorem c_getFirstEntry (l : Launch) (z0 : Nat) (D : va_G) (g : Nat → Nat) (b v : Nat) : Met l yX28_getFirstEntry (wsp yX28_getFirstEntry cX28_getFirstEntry 2 (some (.object "java/util/TreeMap$Entry"))) ({ frames := 0, cells := 0, slots := 0, locals := 0 }) (va_Pc [.ref b] (PR z0 D g [(b, .inr (11, [.null, .ref v, .null, .null, .int 0, .int 0, .null, .null, .null]))])) (va_Qq (fun (r : Option Nat) (_ : Unit) => r = none) (fun _ _ => True) nA) 0 0 nA := by
  refine Met.ofW (cc := cX28_getFirstEntry) (maxL := 2) (ret := (some (.object "java/util/TreeMap$Entry"))) (by decide) rfl ?_
  intro p e s m args below meth c s₁ B hml hv
  obtain ⟨rfl, hE, hP⟩ := hv
  have hx := B.exec
  have hb := B.bytes
  have hr := B.returns
  have hts0 := atoms_spec (ws := (wsp yX28_getFirstEntry cX28_getFirstEntry 2 (some (.object "java/util/TreeMap$Entry")))) B.pre
  have hts : ∀ w ∈ lw_all, w.before _ s = true := fun w h => hts0 w (List.mem_cons_of_mem _ h)
  have hown : s.vm.findClass "java/util/TreeMap" = some m.cls := findClass_of_methodNamed B.named
  have hlocks := B.notSynchronized
  have hK := hE.K
  have hS : va_S nA s.heap s.heap [] := va_S.rf
  have hP : va_P D classes [(b, .inr (11, [.null, .ref v, .null, .null, .int 0, .int 0, .null, .null, .null]))] s.heap := hP
  have hl := lv_entry ([.ref b]) (n := 2) (Nat.le_of_ble_eq_true rfl)
  rw [lg_entry_eq]
  generalize (lg_sl ([.ref b]) ++ List.replicate (2 - (lg_sl ([.ref b])).length) Slot.unset).toArray = ls at hl ⊢
  have hl : lv_has ls 2 [(0, .ref b)] := hl
  refine lv_aload_n hx hb dX28_getFirstEntry_0 rfl (lv_at hl 0 rfl) ?_
  refine va_get (D := D) (ci := 11) (v := .null) (C := RX28) (T := TX28) (N := 9) hx hb hts i_X28 hown hK hP 0 rfl rfl 3 (by decide) (hts _ m_1156) (fun _ h9 => h9) rfl dX28_getFirstEntry_1 ?_
  refine lv_astore_nN (lv' := [(1, .null), (0, .ref b)]) hx hb dX28_getFirstEntry_4 rfl hl (by decide) rfl (fun ls hl => ?_)
  refine lv_aload_nN hx hb dX28_getFirstEntry_5 rfl (lv_at hl 0 rfl) ?_
  refine lv_ifnullN (tgt := 24) hx hb dX28_getFirstEntry_6 (by decide) ?_
  refine lv_aload_nN hx hb dX28_getFirstEntry_24 rfl (lv_at hl 0 rfl) ?_
  refine W.widen (k := 0) (n := 0) (Nat.le_of_ble_eq_true rfl) (Nat.le_of_ble_eq_true rfl) ?_
  exact W.aret (v := .null) hx hb hr (Or.inl ⟨_, rfl⟩) (Or.inl rfl) (fun t ht hW => ⟨⟨none, (), rfl, rfl, trivial⟩, hS.F ht⟩) hS.2.2 dX28_getFirstEntry_25

set_option maxHeartbeats 4000000 in
set_option maxRecDepth 100000 in
theorem c_Viterator (l : Launch) (z0 : Nat) (D : va_G) (g : Nat → Nat) (sz : Nat) (v b : Nat) : Met l yX27_iterator (wsp yX27_iterator cX27_iterator 1 (some (.object "java/util/Iterator"))) ({ frames := 3, cells := 1, slots := 4, locals := 64 }) (va_Pc [.ref v] (PM z0 D g sz [(v, .inr (16, [.ref b])), (b, .inr (11, [.null, .ref v, .null, .null, .int 0, .int 0, .null, .null, .null]))])) (va_Qr (fun (_ : Unit) => True) (fun _ a t => va_P D classes [(v, .inr (16, [.ref b])), (b, .inr (11, [.null, .ref v, .null, .null, .int 0, .int 0, .null, .null, .null])), (a, .inr (17, [.null, .null, .int 0, .ref b]))] t.heap ∧ va_D (va_A [(v, .inr (16, [.ref b])), (b, .inr (11, [.null, .ref v, .null, .null, .int 0, .int 0, .null, .null, .null]))] sz) [(v, .inr (16, [.ref b])), (b, .inr (11, [.null, .ref v, .null, .null, .int 0, .int 0, .null, .null, .null])), (a, .inr (17, [.null, .null, .int 0, .ref b]))]) (va_A [(v, .inr (16, [.ref b])), (b, .inr (11, [.null, .ref v, .null, .null, .int 0, .int 0, .null, .null, .null]))] sz)) 1 4 (va_A [(v, .inr (16, [.ref b])), (b, .inr (11, [.null, .ref v, .null, .null, .int 0, .int 0, .null, .null, .null]))] sz) := by
  refine Met.ofW (cc := cX27_iterator) (maxL := 1) (ret := (some (.object "java/util/Iterator"))) (by decide) rfl ?_
  intro p e s m args below meth c s₁ B hml hv
  obtain ⟨rfl, hsz9, hz0, hE, hP, hD0⟩ := hv
  have hx := B.exec
  have hb := B.bytes
  have hr := B.returns
  have hts0 := atoms_spec (ws := (wsp yX27_iterator cX27_iterator 1 (some (.object "java/util/Iterator")))) B.pre
  have hts : ∀ w ∈ lw_all, w.before _ s = true := fun w h => hts0 w (List.mem_cons_of_mem _ h)
  have hown : s.vm.findClass "java/util/TreeMap$Values" = some m.cls := findClass_of_methodNamed B.named
  have hlocks := B.notSynchronized
  have hK := hE.K
  subst hsz9
  have hsz := hz0
  have hAz : ∀ q, va_A [(v, .inr (16, [.ref b])), (b, .inr (11, [.null, .ref v, .null, .null, .int 0, .int 0, .null, .null, .null]))] s.heap.size q → z0 ≤ q := vaA_z hz0 hD0
  have hD := hD0.self (sz := s.heap.size)
  generalize hAe : va_A [(v, .inr (16, [.ref b])), (b, .inr (11, [.null, .ref v, .null, .null, .int 0, .int 0, .null, .null, .null]))] s.heap.size = A at hD hAz ⊢
  have hA : ∀ q : Nat, s.heap.size ≤ q → A q := fun q h => by rw [← hAe]; exact Or.inr h
  have hS : va_S A s.heap s.heap [] := va_S.rf
  have hP : va_P D classes [(v, .inr (16, [.ref b])), (b, .inr (11, [.null, .ref v, .null, .null, .int 0, .int 0, .null, .null, .null]))] s.heap := hP
  have hl := lv_entry ([.ref v]) (n := 1) (Nat.le_of_ble_eq_true rfl)
  rw [lg_entry_eq]
  generalize (lg_sl ([.ref v]) ++ List.replicate (1 - (lg_sl ([.ref v])).length) Slot.unset).toArray = ls at hl ⊢
  have hl : lv_has ls 1 [(0, .ref v)] := hl
  refine va_new (ci := 17) (fs := [.null, .null, .int 0, .null]) (C := RX26) (T := TX26) (N := 4) hx hb hts i_X26 tyX26 tyX26_ok hown (hts _ m_1953) (hts _ m_1954) (hts _ m_50) hK hP hD hS hA rfl (fun j hj => by rcases (show j = 0 ∨ j = 1 ∨ j = 2 ∨ j = 3 by omega) with rfl | rfl | rfl | rfl <;> rfl) (Nat.le_of_ble_eq_true rfl) (Nat.le_of_ble_eq_true rfl) dX27_iterator_0 (fun q_1 H hP hD hS => ?_)
  have hP : va_P D classes [(v, .inr (16, [.ref b])), (b, .inr (11, [.null, .ref v, .null, .null, .int 0, .int 0, .null, .null, .null])), (q_1, .inr (17, [.null, .null, .int 0, .null]))] H := hP
  have hD : va_D A [(v, .inr (16, [.ref b])), (b, .inr (11, [.null, .ref v, .null, .null, .int 0, .int 0, .null, .null, .null])), (q_1, .inr (17, [.null, .null, .int 0, .null]))] := hD
  refine lv_dup hx hb dX27_iterator_3 rfl ?_
  refine lv_aload_n hx hb dX27_iterator_4 rfl (lv_at hl 0 rfl) ?_
  refine va_get (D := D) (ci := 16) (v := .ref b) (C := RX27) (T := TX27) (N := 1) hx hb hts i_X27 hown hK hP 0 rfl rfl 0 (by decide) (hts _ m_1914) (fun _ h9 => h9) rfl dX27_iterator_5 ?_
  refine lv_aload_n hx hb dX27_iterator_8 rfl (lv_at hl 0 rfl) ?_
  refine va_get (D := D) (ci := 16) (v := .ref b) (C := RX27) (T := TX27) (N := 1) hx hb hts i_X27 hown hK hP 0 rfl rfl 0 (by decide) (hts _ m_1914) (fun _ h9 => h9) rfl dX27_iterator_9 ?_
  have hc_2 := hP.sub (ws' := [(b, .inr (11, [.null, .ref v, .null, .null, .int 0, .int 0, .null, .null, .null]))]) [1] rfl
  refine va_callq (va_runV (As := []) (rest := [.ref b, .ref q_1, .ref q_1]) ⟨hx, hb, hml, hown, hts⟩ (c_getFirstEntry l z0 D g b v) (cwV 0 hts (lw_V m_1955 m_1956 m_1957 m_17 m_1958) rfl rfl rfl (by decide +kernel) ⟨(Nat.le_of_ble_eq_true rfl), (Nat.le_of_ble_eq_true rfl)⟩) ⟨PR.blind, va_recv hK hP (ci := 11) (q0 := 1) rfl rfl, PR.pre hE hS hAz hc_2⟩ rfl rfl hl.1 rfl (lv_room (Nat.le_of_ble_eq_true rfl)) dX27_iterator_12 ⟨(Nat.le_of_ble_eq_true rfl), (Nat.le_of_ble_eq_true rfl)⟩) hS nA_B nA_A (fun r_3 u_4 t H locs ht hvm hw hB hz1 hk1 hS => ?_)
  have hP := hP.old hk1
  have hP : va_P D classes [(v, .inr (16, [.ref b])), (b, .inr (11, [.null, .ref v, .null, .null, .int 0, .int 0, .null, .null, .null])), (q_1, .inr (17, [.null, .null, .int 0, .null]))] H := hP
  subst hw
  refine W.eq (g2 := F0 m 15 ls [.null, .ref b, .ref q_1, .ref q_1]) rfl ?_
  have hc_5 := hP.sub (ws' := [(q_1, .inr (17, [.null, .null, .int 0, .null])), (b, .inr (11, [.null, .ref v, .null, .null, .int 0, .int 0, .null, .null, .null]))]) [2, 1] rfl
  have hc_5D := hD.sub (ws' := [(q_1, .inr (17, [.null, .null, .int 0, .null])), (b, .inr (11, [.null, .ref v, .null, .null, .int 0, .int 0, .null, .null, .null]))]) [2, 1] (by decide) rfl
  have hc_5F := va_free (wc := [(q_1, .inr (17, [.null, .null, .int 0, .null])), (b, .inr (11, [.null, .ref v, .null, .null, .int 0, .int 0, .null, .null, .null]))]) hD hS hA [2, 1] rfl
  refine va_callv (va_runI (As := [.ref b, .null]) (rest := [.ref q_1]) ⟨hx, hb, hml, hown, hts⟩ (c_init_VI l z0 D g _ q_1 b v) (cwI 2 hts (lw_I m_1961) rfl rfl rfl (hts _ m_50) (hts _ m_1959) (hts _ m_1960) rfl (by decide +kernel) ⟨(Nat.le_of_ble_eq_true rfl), (Nat.le_of_ble_eq_true rfl)⟩) ⟨PM.blind, PM.pre hE hS hAz hsz hc_5 hc_5D⟩ rfl rfl hl.1 rfl (lv_room (Nat.le_of_ble_eq_true rfl)) dX27_iterator_15 ⟨(Nat.le_of_ble_eq_true rfl), (Nat.le_of_ble_eq_true rfl)⟩) hS (fun q _ h => hc_5F q h) hc_5F (fun u_7 t H locs ht hvm hw hB hz1 hk1 hS => ?_)
  obtain ⟨hP1, hD1⟩ := hB
  rw [ht] at hP1
  obtain ⟨hP, hD⟩ := va_join (wr := [(v, .inr (16, [.ref b]))]) (w1 := [(q_1, .inr (17, [.null, .null, .int 0, .ref b])), (b, .inr (11, [.null, .ref v, .null, .null, .int 0, .int 0, .null, .null, .null]))]) hP hD [2, 1] [0] rfl rfl (by decide) (by decide) hk1 hc_5F hP1 hD1
  have hP : va_P D classes [(v, .inr (16, [.ref b])), (q_1, .inr (17, [.null, .null, .int 0, .ref b])), (b, .inr (11, [.null, .ref v, .null, .null, .int 0, .int 0, .null, .null, .null]))] H := hP
  have hD : va_D A [(v, .inr (16, [.ref b])), (q_1, .inr (17, [.null, .null, .int 0, .ref b])), (b, .inr (11, [.null, .ref v, .null, .null, .int 0, .int 0, .null, .null, .null]))] := hD
  have hP9 := hP.sub (ws' := [(v, .inr (16, [.ref b])), (b, .inr (11, [.null, .ref v, .null, .null, .int 0, .int 0, .null, .null, .null])), (q_1, .inr (17, [.null, .null, .int 0, .ref b]))]) [0, 2, 1] rfl
  have hD9 := hD.sub (ws' := [(v, .inr (16, [.ref b])), (b, .inr (11, [.null, .ref v, .null, .null, .int 0, .int 0, .null, .null, .null])), (q_1, .inr (17, [.null, .null, .int 0, .ref b]))]) [0, 2, 1] (by decide) rfl
  refine W.widen (k := 1) (n := 4) (Nat.le_of_ble_eq_true rfl) (Nat.le_of_ble_eq_true rfl) ?_
  exact W.aret (v := .ref q_1) hx hb hr (by first | exact Or.inl ⟨_, rfl⟩ | exact Or.inr ⟨_, rfl⟩) (Or.inr ⟨_, rfl⟩) (fun t ht hW => ⟨⟨(), q_1, rfl, trivial, ⟨by rw [ht]; exact hP9, hD9⟩⟩, hS.F ht⟩) hS.2.2 dX27_iterator_18

set_option maxHeartbeats 4000000 in
set_option maxRecDepth 100000 in
theorem c_VIhasNext (l : Launch) (z0 : Nat) (D : va_G) (g : Nat → Nat) (i b : Nat) : Met l yX25_hasNext (wsp yX25_hasNext cX25_hasNext 1 (some .boolean)) ({ frames := 0, cells := 0, slots := 0, locals := 0 }) (va_Pc [.ref i] (PR z0 D g [(i, .inr (17, [.null, .null, .int 0, .ref b]))])) (va_Qi (fun (r : Int32) (_ : Unit) => r = 0) (fun _ _ => True) nA) 0 0 nA := by
  refine Met.ofW (cc := cX25_hasNext) (maxL := 1) (ret := (some .boolean)) (by decide) rfl ?_
  intro p e s m args below meth c s₁ B hml hv
  obtain ⟨rfl, hE, hP⟩ := hv
  have hx := B.exec
  have hb := B.bytes
  have hr := B.returns
  have hts0 := atoms_spec (ws := (wsp yX25_hasNext cX25_hasNext 1 (some .boolean))) B.pre
  have hts : ∀ w ∈ lw_all, w.before _ s = true := fun w h => hts0 w (List.mem_cons_of_mem _ h)
  have hown : s.vm.findClass "java/util/TreeMap$PrivateEntryIterator" = some m.cls := findClass_of_methodNamed B.named
  have hlocks := B.notSynchronized
  have hK := hE.K
  have hS : va_S nA s.heap s.heap [] := va_S.rf
  have hP : va_P D classes [(i, .inr (17, [.null, .null, .int 0, .ref b]))] s.heap := hP
  have hl := lv_entry ([.ref i]) (n := 1) (Nat.le_of_ble_eq_true rfl)
  rw [lg_entry_eq]
  generalize (lg_sl ([.ref i]) ++ List.replicate (1 - (lg_sl ([.ref i])).length) Slot.unset).toArray = ls at hl ⊢
  have hl : lv_has ls 1 [(0, .ref i)] := hl
  refine lv_aload_n hx hb dX25_hasNext_0 rfl (lv_at hl 0 rfl) ?_
  refine va_get (D := D) (ci := 17) (v := .null) (C := RX26) (T := TX26) (N := 4) hx hb hts i_X26 hown hK hP 0 rfl rfl 0 (by decide) (hts _ m_1966) (fun _ h9 => h9) rfl dX25_hasNext_1 ?_
  refine lv_ifnullN (tgt := 11) hx hb dX25_hasNext_4 (by decide) ?_
  refine lv_iconst (v := 0) hx hb dX25_hasNext_11 (by decide) ?_
  refine W.widen (k := 0) (n := 0) (Nat.le_of_ble_eq_true rfl) (Nat.le_of_ble_eq_true rfl) ?_
  exact W.zret (v := 0) hx hb hr (by decide) (fun t ht hW => ⟨⟨0, (), rfl, rfl, trivial⟩, hS.F ht⟩) hS.2.2 dX25_hasNext_12

set_option maxHeartbeats 4000000 in
set_option maxRecDepth 100000 in
theorem c_init_Itr (l : Launch) (z0 : Nat) (D : va_G) (g : Nat → Nat) (sz : Nat) (i b : Nat) : Met l yJx35411_init_45d68 (wsp yJx35411_init_45d68 cJx35411_init_45d68 2 none) ({ frames := 1, cells := 0, slots := 0, locals := 20 }) (va_Pc [.ref i, .ref b] (PM z0 D g sz [(i, .inr (15, [.int 0, .int 0, .int 0, .null])), (b, .inr (10, [.int 0, .ref (g 4), .int 0]))])) (va_Qv (fun (_ : Unit) => True) (fun (_ : Unit) t => va_P D classes [(i, .inr (15, [.int 0, .int (-1), .int 0, .ref b])), (b, .inr (10, [.int 0, .ref (g 4), .int 0]))] t.heap ∧ va_D (va_A [(i, .inr (15, [.int 0, .int 0, .int 0, .null])), (b, .inr (10, [.int 0, .ref (g 4), .int 0]))] sz) [(i, .inr (15, [.int 0, .int (-1), .int 0, .ref b])), (b, .inr (10, [.int 0, .ref (g 4), .int 0]))]) (va_A [(i, .inr (15, [.int 0, .int 0, .int 0, .null])), (b, .inr (10, [.int 0, .ref (g 4), .int 0]))] sz)) 0 0 (va_A [(i, .inr (15, [.int 0, .int 0, .int 0, .null])), (b, .inr (10, [.int 0, .ref (g 4), .int 0]))] sz) := by
  refine Met.ofW (cc := cJx35411_init_45d68) (maxL := 2) (ret := none) (by decide) rfl ?_
  intro p e s m args below meth c s₁ B hml hv
  obtain ⟨rfl, hsz9, hz0, hE, hP, hD0⟩ := hv
  have hx := B.exec
  have hb := B.bytes
  have hr := B.returns
  have hts0 := atoms_spec (ws := (wsp yJx35411_init_45d68 cJx35411_init_45d68 2 none)) B.pre
  have hts : ∀ w ∈ lw_all, w.before _ s = true := fun w h => hts0 w (List.mem_cons_of_mem _ h)
  have hown : s.vm.findClass "java/util/ArrayList$Itr" = some m.cls := findClass_of_methodNamed B.named
  have hlocks := B.notSynchronized
  have hin : meth.name = "<init>" := (name_of_methodNamed B.named B.method).1
  have hK := hE.K
  subst hsz9
  have hsz := hz0
  have hAz : ∀ q, va_A [(i, .inr (15, [.int 0, .int 0, .int 0, .null])), (b, .inr (10, [.int 0, .ref (g 4), .int 0]))] s.heap.size q → z0 ≤ q := vaA_z hz0 hD0
  have hD := hD0.self (sz := s.heap.size)
  generalize hAe : va_A [(i, .inr (15, [.int 0, .int 0, .int 0, .null])), (b, .inr (10, [.int 0, .ref (g 4), .int 0]))] s.heap.size = A at hD hAz ⊢
  have hA : ∀ q : Nat, s.heap.size ≤ q → A q := fun q h => by rw [← hAe]; exact Or.inr h
  have hS : va_S A s.heap s.heap [] := va_S.rf
  have hP : va_P D classes [(i, .inr (15, [.int 0, .int 0, .int 0, .null])), (b, .inr (10, [.int 0, .ref (g 4), .int 0]))] s.heap := hP
  have hl := lv_entry ([.ref i, .ref b]) (n := 2) (Nat.le_of_ble_eq_true rfl)
  rw [lg_entry_eq]
  generalize (lg_sl ([.ref i, .ref b]) ++ List.replicate (2 - (lg_sl ([.ref i, .ref b])).length) Slot.unset).toArray = ls at hl ⊢
  have hl : lv_has ls 2 [(0, .ref i), (1, .ref b)] := hl
  refine lv_aload_n hx hb dJx35411_init_45d68_0 rfl (lv_at hl 0 rfl) ?_
  refine lv_aload_n hx hb dJx35411_init_45d68_1 rfl (lv_at hl 1 rfl) ?_
  refine va_putF (D := D) (ci := 15) (v := .ref b) (ty := (.object "java/util/ArrayList")) (C := RJx35411) (T := TJx35411) (N := 4) hx hb hts i_Jx35411 tyJx35411 tyJx35411_ok nmJx35411 hown hK hP hD hS 0 rfl rfl 3 (by decide) (hts _ m_1937) (fun _ h9 => h9) rfl hin rfl (by decide +kernel) rfl rfl (Nat.le_of_ble_eq_true rfl) dJx35411_init_45d68_2 (fun H locs hP hD hS => ?_)
  have hP : va_P D classes [(i, .inr (15, [.int 0, .int 0, .int 0, .ref b])), (b, .inr (10, [.int 0, .ref (g 4), .int 0]))] H := hP
  have hD : va_D A [(i, .inr (15, [.int 0, .int 0, .int 0, .ref b])), (b, .inr (10, [.int 0, .ref (g 4), .int 0]))] := hD
  refine lv_aload_n hx hb dJx35411_init_45d68_5 rfl (lv_at hl 0 rfl) ?_
  refine W.objInit hx hb hown (hts _ m_1933) (hts _ m_69) (hts _ m_70) rfl (by rw [hml]; exact hl.1) rfl dJx35411_init_45d68_6 (Nat.le_of_ble_eq_true rfl) (Nat.le_of_ble_eq_true rfl) ?_
  refine W.eq (g2 := F0 m 9 ls []) rfl ?_
  refine lv_aload_n hx hb dJx35411_init_45d68_9 rfl (lv_at hl 0 rfl) ?_
  refine lv_iconst (v := (-1)) hx hb dJx35411_init_45d68_10 (by decide) ?_
  refine va_put (D := D) (ci := 15) (v := .int (-1)) (ty := .int) (C := RJx35411) (T := TJx35411) (N := 4) hx hb hts i_Jx35411 tyJx35411 tyJx35411_ok nmJx35411 hown hK hP hD hS 0 rfl rfl 1 (by decide) (hts _ m_1935) (fun _ h9 => h9) rfl (by decide +kernel) rfl rfl (Nat.le_of_ble_eq_true rfl) dJx35411_init_45d68_11 (fun H locs hP hD hS => ?_)
  have hP : va_P D classes [(i, .inr (15, [.int 0, .int (-1), .int 0, .ref b])), (b, .inr (10, [.int 0, .ref (g 4), .int 0]))] H := hP
  have hD : va_D A [(i, .inr (15, [.int 0, .int (-1), .int 0, .ref b])), (b, .inr (10, [.int 0, .ref (g 4), .int 0]))] := hD
  refine lv_aload_n hx hb dJx35411_init_45d68_14 rfl (lv_at hl 0 rfl) ?_
  refine lv_aload_n hx hb dJx35411_init_45d68_15 rfl (lv_at hl 0 rfl) ?_
  refine va_get (D := D) (ci := 15) (v := .ref b) (C := RJx35411) (T := TJx35411) (N := 4) hx hb hts i_Jx35411 hown hK hP 0 rfl rfl 3 (by decide) (hts _ m_1937) (fun _ h9 => h9) rfl dJx35411_init_45d68_16 ?_
  refine va_get (D := D) (ci := 10) (v := .int 0) (C := RJx4a65c) (T := TJx4a65c) (N := 3) hx hb hts i_Jx4a65c hown hK hP 1 rfl rfl 0 (by decide) (hts _ m_1136) (u_same (hts _ m_1137)) rfl dJx35411_init_45d68_19 ?_
  refine va_put (D := D) (ci := 15) (v := .int 0) (ty := .int) (C := RJx35411) (T := TJx35411) (N := 4) hx hb hts i_Jx35411 tyJx35411 tyJx35411_ok nmJx35411 hown hK hP hD hS 0 rfl rfl 2 (by decide) (hts _ m_1936) (fun _ h9 => h9) rfl (by decide +kernel) rfl rfl (Nat.le_of_ble_eq_true rfl) dJx35411_init_45d68_22 (fun H locs hP hD hS => ?_)
  have hP : va_P D classes [(i, .inr (15, [.int 0, .int (-1), .int 0, .ref b])), (b, .inr (10, [.int 0, .ref (g 4), .int 0]))] H := hP
  have hD : va_D A [(i, .inr (15, [.int 0, .int (-1), .int 0, .ref b])), (b, .inr (10, [.int 0, .ref (g 4), .int 0]))] := hD
  have hP9 := hP.sub (ws' := [(i, .inr (15, [.int 0, .int (-1), .int 0, .ref b])), (b, .inr (10, [.int 0, .ref (g 4), .int 0]))]) [0, 1] rfl
  have hD9 := hD.sub (ws' := [(i, .inr (15, [.int 0, .int (-1), .int 0, .ref b])), (b, .inr (10, [.int 0, .ref (g 4), .int 0]))]) [0, 1] (by decide) rfl
  refine W.widen (k := 0) (n := 0) (Nat.le_of_ble_eq_true rfl) (Nat.le_of_ble_eq_true rfl) ?_
  exact W.vret hx hb hr (fun t ht hW => ⟨⟨(), rfl, trivial, ⟨by rw [ht]; exact hP9, hD9⟩⟩, hS.F ht⟩) hS.2.2 dJx35411_init_45d68_25

set_option maxHeartbeats 4000000 in
set_option maxRecDepth 100000 in
theorem c_ALiterator (l : Launch) (z0 : Nat) (D : va_G) (g : Nat → Nat) (sz : Nat) (b : Nat) : Met l yJx4a65c_iterator_32c93 (wsp yJx4a65c_iterator_32c93 cJx4a65c_iterator_32c93 1 (some (.object "java/util/Iterator"))) ({ frames := 2, cells := 1, slots := 4, locals := 41 }) (va_Pc [.ref b] (PM z0 D g sz [(b, .inr (10, [.int 0, .ref (g 4), .int 0]))])) (va_Qr (fun (_ : Unit) => True) (fun _ a t => va_P D classes [(b, .inr (10, [.int 0, .ref (g 4), .int 0])), (a, .inr (15, [.int 0, .int (-1), .int 0, .ref b]))] t.heap ∧ va_D (va_A [(b, .inr (10, [.int 0, .ref (g 4), .int 0]))] sz) [(b, .inr (10, [.int 0, .ref (g 4), .int 0])), (a, .inr (15, [.int 0, .int (-1), .int 0, .ref b]))]) (va_A [(b, .inr (10, [.int 0, .ref (g 4), .int 0]))] sz)) 1 4 (va_A [(b, .inr (10, [.int 0, .ref (g 4), .int 0]))] sz) := by
  refine Met.ofW (cc := cJx4a65c_iterator_32c93) (maxL := 1) (ret := (some (.object "java/util/Iterator"))) (by decide) rfl ?_
  intro p e s m args below meth c s₁ B hml hv
  obtain ⟨rfl, hsz9, hz0, hE, hP, hD0⟩ := hv
  have hx := B.exec
  have hb := B.bytes
  have hr := B.returns
  have hts0 := atoms_spec (ws := (wsp yJx4a65c_iterator_32c93 cJx4a65c_iterator_32c93 1 (some (.object "java/util/Iterator")))) B.pre
  have hts : ∀ w ∈ lw_all, w.before _ s = true := fun w h => hts0 w (List.mem_cons_of_mem _ h)
  have hown : s.vm.findClass "java/util/ArrayList" = some m.cls := findClass_of_methodNamed B.named
  have hlocks := B.notSynchronized
  have hK := hE.K
  subst hsz9
  have hsz := hz0
  have hAz : ∀ q, va_A [(b, .inr (10, [.int 0, .ref (g 4), .int 0]))] s.heap.size q → z0 ≤ q := vaA_z hz0 hD0
  have hD := hD0.self (sz := s.heap.size)
  generalize hAe : va_A [(b, .inr (10, [.int 0, .ref (g 4), .int 0]))] s.heap.size = A at hD hAz ⊢
  have hA : ∀ q : Nat, s.heap.size ≤ q → A q := fun q h => by rw [← hAe]; exact Or.inr h
  have hS : va_S A s.heap s.heap [] := va_S.rf
  have hP : va_P D classes [(b, .inr (10, [.int 0, .ref (g 4), .int 0]))] s.heap := hP
  have hl := lv_entry ([.ref b]) (n := 1) (Nat.le_of_ble_eq_true rfl)
  rw [lg_entry_eq]
  generalize (lg_sl ([.ref b]) ++ List.replicate (1 - (lg_sl ([.ref b])).length) Slot.unset).toArray = ls at hl ⊢
  have hl : lv_has ls 1 [(0, .ref b)] := hl
  refine va_new (ci := 15) (fs := [.int 0, .int 0, .int 0, .null]) (C := RJx35411) (T := TJx35411) (N := 4) hx hb hts i_Jx35411 tyJx35411 tyJx35411_ok hown (hts _ m_1928) (hts _ m_1929) (hts _ m_48) hK hP hD hS hA rfl (fun j hj => by rcases (show j = 0 ∨ j = 1 ∨ j = 2 ∨ j = 3 by omega) with rfl | rfl | rfl | rfl <;> rfl) (Nat.le_of_ble_eq_true rfl) (Nat.le_of_ble_eq_true rfl) dJx4a65c_iterator_32c93_0 (fun q_1 H hP hD hS => ?_)
  have hP : va_P D classes [(b, .inr (10, [.int 0, .ref (g 4), .int 0])), (q_1, .inr (15, [.int 0, .int 0, .int 0, .null]))] H := hP
  have hD : va_D A [(b, .inr (10, [.int 0, .ref (g 4), .int 0])), (q_1, .inr (15, [.int 0, .int 0, .int 0, .null]))] := hD
  refine lv_dup hx hb dJx4a65c_iterator_32c93_3 rfl ?_
  refine lv_aload_n hx hb dJx4a65c_iterator_32c93_4 rfl (lv_at hl 0 rfl) ?_
  have hc_2 := hP.sub (ws' := [(q_1, .inr (15, [.int 0, .int 0, .int 0, .null])), (b, .inr (10, [.int 0, .ref (g 4), .int 0]))]) [1, 0] rfl
  have hc_2D := hD.sub (ws' := [(q_1, .inr (15, [.int 0, .int 0, .int 0, .null])), (b, .inr (10, [.int 0, .ref (g 4), .int 0]))]) [1, 0] (by decide) rfl
  have hc_2F := va_free (wc := [(q_1, .inr (15, [.int 0, .int 0, .int 0, .null])), (b, .inr (10, [.int 0, .ref (g 4), .int 0]))]) hD hS hA [1, 0] rfl
  refine va_callv (va_runI (As := [.ref b]) (rest := [.ref q_1]) ⟨hx, hb, hml, hown, hts⟩ (c_init_Itr l z0 D g _ q_1 b) (cwI 1 hts (lw_I m_1932) rfl rfl rfl (hts _ m_48) (hts _ m_1930) (hts _ m_1931) rfl (by decide +kernel) ⟨(Nat.le_of_ble_eq_true rfl), (Nat.le_of_ble_eq_true rfl)⟩) ⟨PM.blind, PM.pre hE hS hAz hsz hc_2 hc_2D⟩ rfl rfl hl.1 rfl (lv_room (Nat.le_of_ble_eq_true rfl)) dJx4a65c_iterator_32c93_5 ⟨(Nat.le_of_ble_eq_true rfl), (Nat.le_of_ble_eq_true rfl)⟩) hS (fun q _ h => hc_2F q h) hc_2F (fun u_4 t H locs ht hvm hw hB hz1 hk1 hS => ?_)
  obtain ⟨hP1, hD1⟩ := hB
  rw [ht] at hP1
  obtain ⟨hP, hD⟩ := va_join (wr := []) (w1 := [(q_1, .inr (15, [.int 0, .int (-1), .int 0, .ref b])), (b, .inr (10, [.int 0, .ref (g 4), .int 0]))]) hP hD [1, 0] [] rfl rfl (by decide) (by decide) hk1 hc_2F hP1 hD1
  have hP : va_P D classes [(q_1, .inr (15, [.int 0, .int (-1), .int 0, .ref b])), (b, .inr (10, [.int 0, .ref (g 4), .int 0]))] H := hP
  have hD : va_D A [(q_1, .inr (15, [.int 0, .int (-1), .int 0, .ref b])), (b, .inr (10, [.int 0, .ref (g 4), .int 0]))] := hD
  have hP9 := hP.sub (ws' := [(b, .inr (10, [.int 0, .ref (g 4), .int 0])), (q_1, .inr (15, [.int 0, .int (-1), .int 0, .ref b]))]) [1, 0] rfl
  have hD9 := hD.sub (ws' := [(b, .inr (10, [.int 0, .ref (g 4), .int 0])), (q_1, .inr (15, [.int 0, .int (-1), .int 0, .ref b]))]) [1, 0] (by decide) rfl
  refine W.widen (k := 1) (n := 4) (Nat.le_of_ble_eq_true rfl) (Nat.le_of_ble_eq_true rfl) ?_
  exact W.aret (v := .ref q_1) hx hb hr (by first | exact Or.inl ⟨_, rfl⟩ | exact Or.inr ⟨_, rfl⟩) (Or.inr ⟨_, rfl⟩) (fun t ht hW => ⟨⟨(), q_1, rfl, trivial, ⟨by rw [ht]; exact hP9, hD9⟩⟩, hS.F ht⟩) hS.2.2 dJx4a65c_iterator_32c93_8

set_option maxHeartbeats 4000000 in
set_option maxRecDepth 100000 in
theorem c_IthasNext (l : Launch) (z0 : Nat) (D : va_G) (g : Nat → Nat) (i b : Nat) : Met l yJx35411_hasNext_aae02 (wsp yJx35411_hasNext_aae02 cJx35411_hasNext_aae02 1 (some .boolean)) ({ frames := 0, cells := 0, slots := 0, locals := 0 }) (va_Pc [.ref i] (PR z0 D g [(i, .inr (15, [.int 0, .int (-1), .int 0, .ref b])), (b, .inr (10, [.int 0, .ref (g 4), .int 0]))])) (va_Qi (fun (r : Int32) (_ : Unit) => r = 0) (fun _ _ => True) nA) 0 0 nA := by
  refine Met.ofW (cc := cJx35411_hasNext_aae02) (maxL := 1) (ret := (some .boolean)) (by decide) rfl ?_
  intro p e s m args below meth c s₁ B hml hv
  obtain ⟨rfl, hE, hP⟩ := hv
  have hx := B.exec
  have hb := B.bytes
  have hr := B.returns
  have hts0 := atoms_spec (ws := (wsp yJx35411_hasNext_aae02 cJx35411_hasNext_aae02 1 (some .boolean))) B.pre
  have hts : ∀ w ∈ lw_all, w.before _ s = true := fun w h => hts0 w (List.mem_cons_of_mem _ h)
  have hown : s.vm.findClass "java/util/ArrayList$Itr" = some m.cls := findClass_of_methodNamed B.named
  have hlocks := B.notSynchronized
  have hK := hE.K
  have hS : va_S nA s.heap s.heap [] := va_S.rf
  have hP : va_P D classes [(i, .inr (15, [.int 0, .int (-1), .int 0, .ref b])), (b, .inr (10, [.int 0, .ref (g 4), .int 0]))] s.heap := hP
  have hl := lv_entry ([.ref i]) (n := 1) (Nat.le_of_ble_eq_true rfl)
  rw [lg_entry_eq]
  generalize (lg_sl ([.ref i]) ++ List.replicate (1 - (lg_sl ([.ref i])).length) Slot.unset).toArray = ls at hl ⊢
  have hl : lv_has ls 1 [(0, .ref i)] := hl
  refine lv_aload_n hx hb dJx35411_hasNext_aae02_0 rfl (lv_at hl 0 rfl) ?_
  refine va_get (D := D) (ci := 15) (v := .int 0) (C := RJx35411) (T := TJx35411) (N := 4) hx hb hts i_Jx35411 hown hK hP 0 rfl rfl 0 (by decide) (hts _ m_1934) (fun _ h9 => h9) rfl dJx35411_hasNext_aae02_1 ?_
  refine lv_aload_n hx hb dJx35411_hasNext_aae02_4 rfl (lv_at hl 0 rfl) ?_
  refine va_get (D := D) (ci := 15) (v := .ref b) (C := RJx35411) (T := TJx35411) (N := 4) hx hb hts i_Jx35411 hown hK hP 0 rfl rfl 3 (by decide) (hts _ m_1937) (fun _ h9 => h9) rfl dJx35411_hasNext_aae02_5 ?_
  refine va_getN (D := D) (ci := 10) (v := .int 0) (C := RJx4a65c) (T := TJx4a65c) (N := 3) hx hb hts i_Jx4a65c hown hK hP 1 rfl rfl 2 (by decide) (va_Nw.use rfl (hE.ng _ mn_1133)) (fun _ h9 => h9) rfl dJx35411_hasNext_aae02_8 ?_
  refine lv_icmp_eq (tgt := 18) hx hb dJx35411_hasNext_aae02_11 (by decide) (fun _ => ?_) (fun h9 => absurd (by decide) h9)
  refine lv_iconst (v := 0) hx hb dJx35411_hasNext_aae02_18 (by decide) ?_
  refine W.widen (k := 0) (n := 0) (Nat.le_of_ble_eq_true rfl) (Nat.le_of_ble_eq_true rfl) ?_
  exact W.zret (v := 0) hx hb hr (by decide) (fun t ht hW => ⟨⟨0, (), rfl, rfl, trivial⟩, hS.F ht⟩) hS.2.2 dJx35411_hasNext_aae02_19
