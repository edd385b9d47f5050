theorem dL_addTrack_0 : decode cL_addTrack 0 = .ok (.aload_n 3, 1) := by decide +kernel
theorem dL_addTrack_1 : decode cL_addTrack 1 = .ok (.iconst 0, 1) := by decide +kernel
theorem dL_addTrack_2 : decode cL_addTrack 2 = .ok (.aload_n 0, 1) := by decide +kernel
theorem dL_addTrack_3 : decode cL_addTrack 3 = .ok (.iload_n 1, 1) := by decide +kernel
theorem dL_addTrack_4 : decode cL_addTrack 4 = .ok (.iload_n 2, 1) := by decide +kernel
theorem dL_addTrack_5 : decode cL_addTrack 5 = .ok (.invokevirtual 7, 3) := by decide +kernel
theorem dL_addTrack_8 : decode cL_addTrack 8 = .ok (.i2l, 1) := by decide +kernel
theorem dL_addTrack_9 : decode cL_addTrack 9 = .ok (.lastore, 1) := by decide +kernel
theorem dL_addTrack_10 : decode cL_addTrack 10 = .ok (.goto 11, 3) := by decide +kernel
theorem dL_addTrack_13 : decode cL_addTrack 13 = .ok (.astore 4, 2) := by decide +kernel
theorem dL_addTrack_15 : decode cL_addTrack 15 = .ok (.iconst 1, 1) := by decide +kernel
theorem dL_addTrack_16 : decode cL_addTrack 16 = .ok (.ireturn, 1) := by decide +kernel
theorem dL_addTrack_17 : decode cL_addTrack 17 = .ok (.astore 4, 2) := by decide +kernel
theorem dL_addTrack_19 : decode cL_addTrack 19 = .ok (.iconst 2, 1) := by decide +kernel
theorem dL_addTrack_20 : decode cL_addTrack 20 = .ok (.ireturn, 1) := by decide +kernel
theorem dL_addTrack_21 : decode cL_addTrack 21 = .ok (.iconst 0, 1) := by decide +kernel
theorem dL_addTrack_22 : decode cL_addTrack 22 = .ok (.ireturn, 1) := by decide +kernel
theorem dL_removeTrack_0 : decode cL_removeTrack 0 = .ok (.aload_n 2, 1) := by decide +kernel
theorem dL_removeTrack_1 : decode cL_removeTrack 1 = .ok (.iconst 0, 1) := by decide +kernel
theorem dL_removeTrack_2 : decode cL_removeTrack 2 = .ok (.aload_n 0, 1) := by decide +kernel
theorem dL_removeTrack_3 : decode cL_removeTrack 3 = .ok (.iload_n 1, 1) := by decide +kernel
theorem dL_removeTrack_4 : decode cL_removeTrack 4 = .ok (.invokevirtual 17, 3) := by decide +kernel
theorem dL_removeTrack_7 : decode cL_removeTrack 7 = .ok (.i2l, 1) := by decide +kernel
theorem dL_removeTrack_8 : decode cL_removeTrack 8 = .ok (.lastore, 1) := by decide +kernel
theorem dL_removeTrack_9 : decode cL_removeTrack 9 = .ok (.goto 6, 3) := by decide +kernel
theorem dL_removeTrack_12 : decode cL_removeTrack 12 = .ok (.astore_n 3, 1) := by decide +kernel
theorem dL_removeTrack_13 : decode cL_removeTrack 13 = .ok (.iconst 1, 1) := by decide +kernel
theorem dL_removeTrack_14 : decode cL_removeTrack 14 = .ok (.ireturn, 1) := by decide +kernel
theorem dL_removeTrack_15 : decode cL_removeTrack 15 = .ok (.iconst 0, 1) := by decide +kernel
theorem dL_removeTrack_16 : decode cL_removeTrack 16 = .ok (.ireturn, 1) := by decide +kernel
theorem dL_setRating_0 : decode cL_setRating 0 = .ok (.aload_n 3, 1) := by decide +kernel
theorem dL_setRating_1 : decode cL_setRating 1 = .ok (.iconst 0, 1) := by decide +kernel
theorem dL_setRating_2 : decode cL_setRating 2 = .ok (.aload_n 0, 1) := by decide +kernel
theorem dL_setRating_3 : decode cL_setRating 3 = .ok (.iload_n 1, 1) := by decide +kernel
theorem dL_setRating_4 : decode cL_setRating 4 = .ok (.iload_n 2, 1) := by decide +kernel
theorem dL_setRating_5 : decode cL_setRating 5 = .ok (.invokevirtual 23, 3) := by decide +kernel
theorem dL_setRating_8 : decode cL_setRating 8 = .ok (.i2l, 1) := by decide +kernel
theorem dL_setRating_9 : decode cL_setRating 9 = .ok (.lastore, 1) := by decide +kernel
theorem dL_setRating_10 : decode cL_setRating 10 = .ok (.goto 11, 3) := by decide +kernel
theorem dL_setRating_13 : decode cL_setRating 13 = .ok (.astore 4, 2) := by decide +kernel
theorem dL_setRating_15 : decode cL_setRating 15 = .ok (.iconst 1, 1) := by decide +kernel
theorem dL_setRating_16 : decode cL_setRating 16 = .ok (.ireturn, 1) := by decide +kernel
theorem dL_setRating_17 : decode cL_setRating 17 = .ok (.astore 4, 2) := by decide +kernel
theorem dL_setRating_19 : decode cL_setRating 19 = .ok (.iconst 2, 1) := by decide +kernel
theorem dL_setRating_20 : decode cL_setRating 20 = .ok (.ireturn, 1) := by decide +kernel
theorem dL_setRating_21 : decode cL_setRating 21 = .ok (.iconst 0, 1) := by decide +kernel
theorem dL_setRating_22 : decode cL_setRating 22 = .ok (.ireturn, 1) := by decide +kernel
theorem dL_play_0 : decode cL_play 0 = .ok (.aload_n 2, 1) := by decide +kernel
theorem dL_play_1 : decode cL_play 1 = .ok (.iconst 0, 1) := by decide +kernel
theorem dL_play_2 : decode cL_play 2 = .ok (.aload_n 0, 1) := by decide +kernel
theorem dL_play_3 : decode cL_play 3 = .ok (.iload_n 1, 1) := by decide +kernel
theorem dL_play_4 : decode cL_play 4 = .ok (.invokevirtual 26, 3) := by decide +kernel
theorem dL_play_7 : decode cL_play 7 = .ok (.i2l, 1) := by decide +kernel
theorem dL_play_8 : decode cL_play 8 = .ok (.lastore, 1) := by decide +kernel
theorem dL_play_9 : decode cL_play 9 = .ok (.goto 9, 3) := by decide +kernel
theorem dL_play_12 : decode cL_play 12 = .ok (.astore_n 3, 1) := by decide +kernel
theorem dL_play_13 : decode cL_play 13 = .ok (.iconst 1, 1) := by decide +kernel
theorem dL_play_14 : decode cL_play 14 = .ok (.ireturn, 1) := by decide +kernel
theorem dL_play_15 : decode cL_play 15 = .ok (.astore_n 3, 1) := by decide +kernel
theorem dL_play_16 : decode cL_play 16 = .ok (.iconst 2, 1) := by decide +kernel
theorem dL_play_17 : decode cL_play 17 = .ok (.ireturn, 1) := by decide +kernel
theorem dL_play_18 : decode cL_play 18 = .ok (.iconst 0, 1) := by decide +kernel
theorem dL_play_19 : decode cL_play 19 = .ok (.ireturn, 1) := by decide +kernel
theorem dL_pass_0 : decode cL_pass 0 = .ok (.aload_n 2, 1) := by decide +kernel
theorem dL_pass_1 : decode cL_pass 1 = .ok (.iconst 0, 1) := by decide +kernel
theorem dL_pass_2 : decode cL_pass 2 = .ok (.aload_n 0, 1) := by decide +kernel
theorem dL_pass_3 : decode cL_pass 3 = .ok (.iload_n 1, 1) := by decide +kernel
theorem dL_pass_4 : decode cL_pass 4 = .ok (.invokevirtual 29, 3) := by decide +kernel
theorem dL_pass_7 : decode cL_pass 7 = .ok (.i2l, 1) := by decide +kernel
theorem dL_pass_8 : decode cL_pass 8 = .ok (.lastore, 1) := by decide +kernel
theorem dL_pass_9 : decode cL_pass 9 = .ok (.goto 9, 3) := by decide +kernel
theorem dL_pass_12 : decode cL_pass 12 = .ok (.astore_n 3, 1) := by decide +kernel
theorem dL_pass_13 : decode cL_pass 13 = .ok (.iconst 1, 1) := by decide +kernel
theorem dL_pass_14 : decode cL_pass 14 = .ok (.ireturn, 1) := by decide +kernel
theorem dL_pass_15 : decode cL_pass 15 = .ok (.astore_n 3, 1) := by decide +kernel
theorem dL_pass_16 : decode cL_pass 16 = .ok (.iconst 2, 1) := by decide +kernel
theorem dL_pass_17 : decode cL_pass 17 = .ok (.ireturn, 1) := by decide +kernel
theorem dL_pass_18 : decode cL_pass 18 = .ok (.iconst 0, 1) := by decide +kernel
theorem dL_pass_19 : decode cL_pass 19 = .ok (.ireturn, 1) := by decide +kernel
theorem dL_addTag_0 : decode cL_addTag 0 = .ok (.aload_n 1, 1) := by decide +kernel
theorem dL_addTag_1 : decode cL_addTag 1 = .ok (.iconst 0, 1) := by decide +kernel
theorem dL_addTag_2 : decode cL_addTag 2 = .ok (.aload_n 0, 1) := by decide +kernel
theorem dL_addTag_3 : decode cL_addTag 3 = .ok (.invokevirtual 32, 3) := by decide +kernel
theorem dL_addTag_6 : decode cL_addTag 6 = .ok (.i2l, 1) := by decide +kernel
theorem dL_addTag_7 : decode cL_addTag 7 = .ok (.lastore, 1) := by decide +kernel
theorem dL_addTag_8 : decode cL_addTag 8 = .ok (.goto 6, 3) := by decide +kernel
theorem dL_addTag_11 : decode cL_addTag 11 = .ok (.astore_n 2, 1) := by decide +kernel
theorem dL_addTag_12 : decode cL_addTag 12 = .ok (.iconst 1, 1) := by decide +kernel
theorem dL_addTag_13 : decode cL_addTag 13 = .ok (.ireturn, 1) := by decide +kernel
theorem dL_addTag_14 : decode cL_addTag 14 = .ok (.iconst 0, 1) := by decide +kernel
theorem dL_addTag_15 : decode cL_addTag 15 = .ok (.ireturn, 1) := by decide +kernel
theorem dL_letter_0 : decode cL_letter 0 = .ok (.aload_n 3, 1) := by decide +kernel
theorem dL_letter_1 : decode cL_letter 1 = .ok (.iconst 0, 1) := by decide +kernel
theorem dL_letter_2 : decode cL_letter 2 = .ok (.aload_n 0, 1) := by decide +kernel
theorem dL_letter_3 : decode cL_letter 3 = .ok (.iload_n 1, 1) := by decide +kernel
theorem dL_letter_4 : decode cL_letter 4 = .ok (.iload_n 2, 1) := by decide +kernel
theorem dL_letter_5 : decode cL_letter 5 = .ok (.invokevirtual 36, 3) := by decide +kernel
theorem dL_letter_8 : decode cL_letter 8 = .ok (.i2l, 1) := by decide +kernel
theorem dL_letter_9 : decode cL_letter 9 = .ok (.lastore, 1) := by decide +kernel
theorem dL_letter_10 : decode cL_letter 10 = .ok (.goto 15, 3) := by decide +kernel
theorem dL_letter_13 : decode cL_letter 13 = .ok (.astore 4, 2) := by decide +kernel
theorem dL_letter_15 : decode cL_letter 15 = .ok (.iconst 1, 1) := by decide +kernel
theorem dL_letter_16 : decode cL_letter 16 = .ok (.ireturn, 1) := by decide +kernel
theorem dL_letter_17 : decode cL_letter 17 = .ok (.astore 4, 2) := by decide +kernel
theorem dL_letter_19 : decode cL_letter 19 = .ok (.iconst 2, 1) := by decide +kernel
theorem dL_letter_20 : decode cL_letter 20 = .ok (.ireturn, 1) := by decide +kernel
theorem dL_letter_21 : decode cL_letter 21 = .ok (.astore 4, 2) := by decide +kernel
theorem dL_letter_23 : decode cL_letter 23 = .ok (.iconst 3, 1) := by decide +kernel
theorem dL_letter_24 : decode cL_letter 24 = .ok (.ireturn, 1) := by decide +kernel
theorem dL_letter_25 : decode cL_letter 25 = .ok (.iconst 0, 1) := by decide +kernel
theorem dL_letter_26 : decode cL_letter 26 = .ok (.ireturn, 1) := by decide +kernel
theorem dL_tag_0 : decode cL_tag 0 = .ok (.aload_n 3, 1) := by decide +kernel
theorem dL_tag_1 : decode cL_tag 1 = .ok (.iconst 0, 1) := by decide +kernel
theorem dL_tag_2 : decode cL_tag 2 = .ok (.aload_n 0, 1) := by decide +kernel
theorem dL_tag_3 : decode cL_tag 3 = .ok (.iload_n 1, 1) := by decide +kernel
theorem dL_tag_4 : decode cL_tag 4 = .ok (.iload_n 2, 1) := by decide +kernel
theorem dL_tag_5 : decode cL_tag 5 = .ok (.invokevirtual 40, 3) := by decide +kernel
theorem dL_tag_8 : decode cL_tag 8 = .ok (.i2l, 1) := by decide +kernel
theorem dL_tag_9 : decode cL_tag 9 = .ok (.lastore, 1) := by decide +kernel
theorem dL_tag_10 : decode cL_tag 10 = .ok (.goto 11, 3) := by decide +kernel
theorem dL_tag_13 : decode cL_tag 13 = .ok (.astore 4, 2) := by decide +kernel
theorem dL_tag_15 : decode cL_tag 15 = .ok (.iconst 1, 1) := by decide +kernel
theorem dL_tag_16 : decode cL_tag 16 = .ok (.ireturn, 1) := by decide +kernel
theorem dL_tag_17 : decode cL_tag 17 = .ok (.astore 4, 2) := by decide +kernel
theorem dL_tag_19 : decode cL_tag 19 = .ok (.iconst 2, 1) := by decide +kernel
theorem dL_tag_20 : decode cL_tag 20 = .ok (.ireturn, 1) := by decide +kernel
theorem dL_tag_21 : decode cL_tag 21 = .ok (.iconst 0, 1) := by decide +kernel
theorem dL_tag_22 : decode cL_tag 22 = .ok (.ireturn, 1) := by decide +kernel
theorem dL_untag_0 : decode cL_untag 0 = .ok (.aload_n 3, 1) := by decide +kernel
theorem dL_untag_1 : decode cL_untag 1 = .ok (.iconst 0, 1) := by decide +kernel
theorem dL_untag_2 : decode cL_untag 2 = .ok (.aload_n 0, 1) := by decide +kernel
theorem dL_untag_3 : decode cL_untag 3 = .ok (.iload_n 1, 1) := by decide +kernel
theorem dL_untag_4 : decode cL_untag 4 = .ok (.iload_n 2, 1) := by decide +kernel
theorem dL_untag_5 : decode cL_untag 5 = .ok (.invokevirtual 43, 3) := by decide +kernel
theorem dL_untag_8 : decode cL_untag 8 = .ok (.i2l, 1) := by decide +kernel
theorem dL_untag_9 : decode cL_untag 9 = .ok (.lastore, 1) := by decide +kernel
theorem dL_untag_10 : decode cL_untag 10 = .ok (.goto 11, 3) := by decide +kernel
theorem dL_untag_13 : decode cL_untag 13 = .ok (.astore 4, 2) := by decide +kernel
theorem dL_untag_15 : decode cL_untag 15 = .ok (.iconst 1, 1) := by decide +kernel
theorem dL_untag_16 : decode cL_untag 16 = .ok (.ireturn, 1) := by decide +kernel
theorem dL_untag_17 : decode cL_untag 17 = .ok (.astore 4, 2) := by decide +kernel
theorem dL_untag_19 : decode cL_untag 19 = .ok (.iconst 2, 1) := by decide +kernel
theorem dL_untag_20 : decode cL_untag 20 = .ok (.ireturn, 1) := by decide +kernel
theorem dL_untag_21 : decode cL_untag 21 = .ok (.iconst 0, 1) := by decide +kernel
theorem dL_untag_22 : decode cL_untag 22 = .ok (.ireturn, 1) := by decide +kernel
theorem dL_tidy_0 : decode cL_tidy 0 = .ok (.aload_n 3, 1) := by decide +kernel
theorem dL_tidy_1 : decode cL_tidy 1 = .ok (.iconst 0, 1) := by decide +kernel
theorem dL_tidy_2 : decode cL_tidy 2 = .ok (.aload_n 0, 1) := by decide +kernel
theorem dL_tidy_3 : decode cL_tidy 3 = .ok (.iload_n 1, 1) := by decide +kernel
theorem dL_tidy_4 : decode cL_tidy 4 = .ok (.iload_n 2, 1) := by decide +kernel
theorem dL_tidy_5 : decode cL_tidy 5 = .ok (.invokevirtual 46, 3) := by decide +kernel
theorem dL_tidy_8 : decode cL_tidy 8 = .ok (.i2l, 1) := by decide +kernel
theorem dL_tidy_9 : decode cL_tidy 9 = .ok (.lastore, 1) := by decide +kernel
theorem dL_tidy_10 : decode cL_tidy 10 = .ok (.goto 15, 3) := by decide +kernel
theorem dL_tidy_13 : decode cL_tidy 13 = .ok (.astore 4, 2) := by decide +kernel
theorem dL_tidy_15 : decode cL_tidy 15 = .ok (.iconst 1, 1) := by decide +kernel
theorem dL_tidy_16 : decode cL_tidy 16 = .ok (.ireturn, 1) := by decide +kernel
theorem dL_tidy_17 : decode cL_tidy 17 = .ok (.astore 4, 2) := by decide +kernel
theorem dL_tidy_19 : decode cL_tidy 19 = .ok (.iconst 2, 1) := by decide +kernel
theorem dL_tidy_20 : decode cL_tidy 20 = .ok (.ireturn, 1) := by decide +kernel
theorem dL_tidy_21 : decode cL_tidy 21 = .ok (.astore 4, 2) := by decide +kernel
theorem dL_tidy_23 : decode cL_tidy 23 = .ok (.iconst 3, 1) := by decide +kernel
theorem dL_tidy_24 : decode cL_tidy 24 = .ok (.ireturn, 1) := by decide +kernel
theorem dL_tidy_25 : decode cL_tidy 25 = .ok (.iconst 0, 1) := by decide +kernel
theorem dL_tidy_26 : decode cL_tidy 26 = .ok (.ireturn, 1) := by decide +kernel
theorem dL_undoTidy_0 : decode cL_undoTidy 0 = .ok (.aload_n 1, 1) := by decide +kernel
theorem dL_undoTidy_1 : decode cL_undoTidy 1 = .ok (.iconst 0, 1) := by decide +kernel
theorem dL_undoTidy_2 : decode cL_undoTidy 2 = .ok (.aload_n 0, 1) := by decide +kernel
theorem dL_undoTidy_3 : decode cL_undoTidy 3 = .ok (.invokevirtual 51, 3) := by decide +kernel
theorem dL_undoTidy_6 : decode cL_undoTidy 6 = .ok (.i2l, 1) := by decide +kernel
theorem dL_undoTidy_7 : decode cL_undoTidy 7 = .ok (.lastore, 1) := by decide +kernel
theorem dL_undoTidy_8 : decode cL_undoTidy 8 = .ok (.goto 6, 3) := by decide +kernel
theorem dL_undoTidy_11 : decode cL_undoTidy 11 = .ok (.astore_n 2, 1) := by decide +kernel
theorem dL_undoTidy_12 : decode cL_undoTidy 12 = .ok (.iconst 1, 1) := by decide +kernel
theorem dL_undoTidy_13 : decode cL_undoTidy 13 = .ok (.ireturn, 1) := by decide +kernel
theorem dL_undoTidy_14 : decode cL_undoTidy 14 = .ok (.iconst 0, 1) := by decide +kernel
theorem dL_undoTidy_15 : decode cL_undoTidy 15 = .ok (.ireturn, 1) := by decide +kernel
theorem dL_hasTag_0 : decode cL_hasTag 0 = .ok (.aload_n 2, 1) := by decide +kernel
theorem dL_hasTag_1 : decode cL_hasTag 1 = .ok (.iconst 0, 1) := by decide +kernel
theorem dL_hasTag_2 : decode cL_hasTag 2 = .ok (.aload_n 0, 1) := by decide +kernel
theorem dL_hasTag_3 : decode cL_hasTag 3 = .ok (.iload_n 1, 1) := by decide +kernel
theorem dL_hasTag_4 : decode cL_hasTag 4 = .ok (.invokevirtual 54, 3) := by decide +kernel
theorem dL_hasTag_7 : decode cL_hasTag 7 = .ok (.i2l, 1) := by decide +kernel
theorem dL_hasTag_8 : decode cL_hasTag 8 = .ok (.lastore, 1) := by decide +kernel
theorem dL_hasTag_9 : decode cL_hasTag 9 = .ok (.goto 9, 3) := by decide +kernel
theorem dL_hasTag_12 : decode cL_hasTag 12 = .ok (.astore_n 3, 1) := by decide +kernel
theorem dL_hasTag_13 : decode cL_hasTag 13 = .ok (.iconst 1, 1) := by decide +kernel
theorem dL_hasTag_14 : decode cL_hasTag 14 = .ok (.ireturn, 1) := by decide +kernel
theorem dL_hasTag_15 : decode cL_hasTag 15 = .ok (.astore_n 3, 1) := by decide +kernel
theorem dL_hasTag_16 : decode cL_hasTag 16 = .ok (.iconst 2, 1) := by decide +kernel
theorem dL_hasTag_17 : decode cL_hasTag 17 = .ok (.ireturn, 1) := by decide +kernel
theorem dL_hasTag_18 : decode cL_hasTag 18 = .ok (.iconst 0, 1) := by decide +kernel
theorem dL_hasTag_19 : decode cL_hasTag 19 = .ok (.ireturn, 1) := by decide +kernel
theorem dL_rated_0 : decode cL_rated 0 = .ok (.aload_n 2, 1) := by decide +kernel
theorem dL_rated_1 : decode cL_rated 1 = .ok (.iconst 0, 1) := by decide +kernel
theorem dL_rated_2 : decode cL_rated 2 = .ok (.aload_n 0, 1) := by decide +kernel
theorem dL_rated_3 : decode cL_rated 3 = .ok (.iload_n 1, 1) := by decide +kernel
theorem dL_rated_4 : decode cL_rated 4 = .ok (.invokevirtual 57, 3) := by decide +kernel
theorem dL_rated_7 : decode cL_rated 7 = .ok (.i2l, 1) := by decide +kernel
theorem dL_rated_8 : decode cL_rated 8 = .ok (.lastore, 1) := by decide +kernel
theorem dL_rated_9 : decode cL_rated 9 = .ok (.goto 9, 3) := by decide +kernel
theorem dL_rated_12 : decode cL_rated 12 = .ok (.astore_n 3, 1) := by decide +kernel
theorem dL_rated_13 : decode cL_rated 13 = .ok (.iconst 1, 1) := by decide +kernel
theorem dL_rated_14 : decode cL_rated 14 = .ok (.ireturn, 1) := by decide +kernel
theorem dL_rated_15 : decode cL_rated 15 = .ok (.astore_n 3, 1) := by decide +kernel
theorem dL_rated_16 : decode cL_rated 16 = .ok (.iconst 2, 1) := by decide +kernel
theorem dL_rated_17 : decode cL_rated 17 = .ok (.ireturn, 1) := by decide +kernel
theorem dL_rated_18 : decode cL_rated 18 = .ok (.iconst 0, 1) := by decide +kernel
theorem dL_rated_19 : decode cL_rated 19 = .ok (.ireturn, 1) := by decide +kernel
theorem dL_playedAtMost_0 : decode cL_playedAtMost 0 = .ok (.aload_n 2, 1) := by decide +kernel
theorem dL_playedAtMost_1 : decode cL_playedAtMost 1 = .ok (.iconst 0, 1) := by decide +kernel
theorem dL_playedAtMost_2 : decode cL_playedAtMost 2 = .ok (.aload_n 0, 1) := by decide +kernel
theorem dL_playedAtMost_3 : decode cL_playedAtMost 3 = .ok (.iload_n 1, 1) := by decide +kernel
theorem dL_playedAtMost_4 : decode cL_playedAtMost 4 = .ok (.invokevirtual 60, 3) := by decide +kernel
theorem dL_playedAtMost_7 : decode cL_playedAtMost 7 = .ok (.i2l, 1) := by decide +kernel
theorem dL_playedAtMost_8 : decode cL_playedAtMost 8 = .ok (.lastore, 1) := by decide +kernel
theorem dL_playedAtMost_9 : decode cL_playedAtMost 9 = .ok (.goto 9, 3) := by decide +kernel
theorem dL_playedAtMost_12 : decode cL_playedAtMost 12 = .ok (.astore_n 3, 1) := by decide +kernel
theorem dL_playedAtMost_13 : decode cL_playedAtMost 13 = .ok (.iconst 1, 1) := by decide +kernel
theorem dL_playedAtMost_14 : decode cL_playedAtMost 14 = .ok (.ireturn, 1) := by decide +kernel
theorem dL_playedAtMost_15 : decode cL_playedAtMost 15 = .ok (.astore_n 3, 1) := by decide +kernel
theorem dL_playedAtMost_16 : decode cL_playedAtMost 16 = .ok (.iconst 2, 1) := by decide +kernel
theorem dL_playedAtMost_17 : decode cL_playedAtMost 17 = .ok (.ireturn, 1) := by decide +kernel
theorem dL_playedAtMost_18 : decode cL_playedAtMost 18 = .ok (.iconst 0, 1) := by decide +kernel
theorem dL_playedAtMost_19 : decode cL_playedAtMost 19 = .ok (.ireturn, 1) := by decide +kernel
theorem dL_asLongAs_0 : decode cL_asLongAs 0 = .ok (.aload_n 2, 1) := by decide +kernel
theorem dL_asLongAs_1 : decode cL_asLongAs 1 = .ok (.iconst 0, 1) := by decide +kernel
theorem dL_asLongAs_2 : decode cL_asLongAs 2 = .ok (.aload_n 0, 1) := by decide +kernel
theorem dL_asLongAs_3 : decode cL_asLongAs 3 = .ok (.iload_n 1, 1) := by decide +kernel
theorem dL_asLongAs_4 : decode cL_asLongAs 4 = .ok (.invokevirtual 63, 3) := by decide +kernel
theorem dL_asLongAs_7 : decode cL_asLongAs 7 = .ok (.i2l, 1) := by decide +kernel
theorem dL_asLongAs_8 : decode cL_asLongAs 8 = .ok (.lastore, 1) := by decide +kernel
theorem dL_asLongAs_9 : decode cL_asLongAs 9 = .ok (.goto 9, 3) := by decide +kernel
theorem dL_asLongAs_12 : decode cL_asLongAs 12 = .ok (.astore_n 3, 1) := by decide +kernel
theorem dL_asLongAs_13 : decode cL_asLongAs 13 = .ok (.iconst 1, 1) := by decide +kernel
theorem dL_asLongAs_14 : decode cL_asLongAs 14 = .ok (.ireturn, 1) := by decide +kernel
theorem dL_asLongAs_15 : decode cL_asLongAs 15 = .ok (.astore_n 3, 1) := by decide +kernel
theorem dL_asLongAs_16 : decode cL_asLongAs 16 = .ok (.iconst 2, 1) := by decide +kernel
theorem dL_asLongAs_17 : decode cL_asLongAs 17 = .ok (.ireturn, 1) := by decide +kernel
theorem dL_asLongAs_18 : decode cL_asLongAs 18 = .ok (.iconst 0, 1) := by decide +kernel
theorem dL_asLongAs_19 : decode cL_asLongAs 19 = .ok (.ireturn, 1) := by decide +kernel
theorem dL_playedWithin_0 : decode cL_playedWithin 0 = .ok (.aload_n 2, 1) := by decide +kernel
theorem dL_playedWithin_1 : decode cL_playedWithin 1 = .ok (.iconst 0, 1) := by decide +kernel
theorem dL_playedWithin_2 : decode cL_playedWithin 2 = .ok (.aload_n 0, 1) := by decide +kernel
theorem dL_playedWithin_3 : decode cL_playedWithin 3 = .ok (.iload_n 1, 1) := by decide +kernel
theorem dL_playedWithin_4 : decode cL_playedWithin 4 = .ok (.invokevirtual 66, 3) := by decide +kernel
theorem dL_playedWithin_7 : decode cL_playedWithin 7 = .ok (.i2l, 1) := by decide +kernel
theorem dL_playedWithin_8 : decode cL_playedWithin 8 = .ok (.lastore, 1) := by decide +kernel
theorem dL_playedWithin_9 : decode cL_playedWithin 9 = .ok (.goto 9, 3) := by decide +kernel
theorem dL_playedWithin_12 : decode cL_playedWithin 12 = .ok (.astore_n 3, 1) := by decide +kernel
theorem dL_playedWithin_13 : decode cL_playedWithin 13 = .ok (.iconst 1, 1) := by decide +kernel
theorem dL_playedWithin_14 : decode cL_playedWithin 14 = .ok (.ireturn, 1) := by decide +kernel
theorem dL_playedWithin_15 : decode cL_playedWithin 15 = .ok (.astore_n 3, 1) := by decide +kernel
theorem dL_playedWithin_16 : decode cL_playedWithin 16 = .ok (.iconst 2, 1) := by decide +kernel
theorem dL_playedWithin_17 : decode cL_playedWithin 17 = .ok (.ireturn, 1) := by decide +kernel
theorem dL_playedWithin_18 : decode cL_playedWithin 18 = .ok (.iconst 0, 1) := by decide +kernel
theorem dL_playedWithin_19 : decode cL_playedWithin 19 = .ok (.ireturn, 1) := by decide +kernel
theorem dL_inList_0 : decode cL_inList 0 = .ok (.aload_n 2, 1) := by decide +kernel
theorem dL_inList_1 : decode cL_inList 1 = .ok (.iconst 0, 1) := by decide +kernel
theorem dL_inList_2 : decode cL_inList 2 = .ok (.aload_n 0, 1) := by decide +kernel
theorem dL_inList_3 : decode cL_inList 3 = .ok (.iload_n 1, 1) := by decide +kernel
theorem dL_inList_4 : decode cL_inList 4 = .ok (.invokevirtual 69, 3) := by decide +kernel
theorem dL_inList_7 : decode cL_inList 7 = .ok (.i2l, 1) := by decide +kernel
theorem dL_inList_8 : decode cL_inList 8 = .ok (.lastore, 1) := by decide +kernel
theorem dL_inList_9 : decode cL_inList 9 = .ok (.goto 9, 3) := by decide +kernel
theorem dL_inList_12 : decode cL_inList 12 = .ok (.astore_n 3, 1) := by decide +kernel
theorem dL_inList_13 : decode cL_inList 13 = .ok (.iconst 1, 1) := by decide +kernel
theorem dL_inList_14 : decode cL_inList 14 = .ok (.ireturn, 1) := by decide +kernel
theorem dL_inList_15 : decode cL_inList 15 = .ok (.astore_n 3, 1) := by decide +kernel
theorem dL_inList_16 : decode cL_inList 16 = .ok (.iconst 2, 1) := by decide +kernel
theorem dL_inList_17 : decode cL_inList 17 = .ok (.ireturn, 1) := by decide +kernel
theorem dL_inList_18 : decode cL_inList 18 = .ok (.iconst 0, 1) := by decide +kernel
theorem dL_inList_19 : decode cL_inList 19 = .ok (.ireturn, 1) := by decide +kernel
theorem dL_both_0 : decode cL_both 0 = .ok (.aload_n 3, 1) := by decide +kernel
theorem dL_both_1 : decode cL_both 1 = .ok (.iconst 0, 1) := by decide +kernel
theorem dL_both_2 : decode cL_both 2 = .ok (.aload_n 0, 1) := by decide +kernel
theorem dL_both_3 : decode cL_both 3 = .ok (.iload_n 1, 1) := by decide +kernel
theorem dL_both_4 : decode cL_both 4 = .ok (.iload_n 2, 1) := by decide +kernel
theorem dL_both_5 : decode cL_both 5 = .ok (.invokevirtual 72, 3) := by decide +kernel
theorem dL_both_8 : decode cL_both 8 = .ok (.i2l, 1) := by decide +kernel
theorem dL_both_9 : decode cL_both 9 = .ok (.lastore, 1) := by decide +kernel
theorem dL_both_10 : decode cL_both 10 = .ok (.goto 15, 3) := by decide +kernel
theorem dL_both_13 : decode cL_both 13 = .ok (.astore 4, 2) := by decide +kernel
theorem dL_both_15 : decode cL_both 15 = .ok (.iconst 1, 1) := by decide +kernel
theorem dL_both_16 : decode cL_both 16 = .ok (.ireturn, 1) := by decide +kernel
theorem dL_both_17 : decode cL_both 17 = .ok (.astore 4, 2) := by decide +kernel
theorem dL_both_19 : decode cL_both 19 = .ok (.iconst 2, 1) := by decide +kernel
theorem dL_both_20 : decode cL_both 20 = .ok (.ireturn, 1) := by decide +kernel
theorem dL_both_21 : decode cL_both 21 = .ok (.astore 4, 2) := by decide +kernel
theorem dL_both_23 : decode cL_both 23 = .ok (.iconst 3, 1) := by decide +kernel
theorem dL_both_24 : decode cL_both 24 = .ok (.ireturn, 1) := by decide +kernel
theorem dL_both_25 : decode cL_both 25 = .ok (.iconst 0, 1) := by decide +kernel
theorem dL_both_26 : decode cL_both 26 = .ok (.ireturn, 1) := by decide +kernel
theorem dL_either_0 : decode cL_either 0 = .ok (.aload_n 3, 1) := by decide +kernel
theorem dL_either_1 : decode cL_either 1 = .ok (.iconst 0, 1) := by decide +kernel
theorem dL_either_2 : decode cL_either 2 = .ok (.aload_n 0, 1) := by decide +kernel
theorem dL_either_3 : decode cL_either 3 = .ok (.iload_n 1, 1) := by decide +kernel
theorem dL_either_4 : decode cL_either 4 = .ok (.iload_n 2, 1) := by decide +kernel
theorem dL_either_5 : decode cL_either 5 = .ok (.invokevirtual 75, 3) := by decide +kernel
theorem dL_either_8 : decode cL_either 8 = .ok (.i2l, 1) := by decide +kernel
theorem dL_either_9 : decode cL_either 9 = .ok (.lastore, 1) := by decide +kernel
theorem dL_either_10 : decode cL_either 10 = .ok (.goto 15, 3) := by decide +kernel
theorem dL_either_13 : decode cL_either 13 = .ok (.astore 4, 2) := by decide +kernel
theorem dL_either_15 : decode cL_either 15 = .ok (.iconst 1, 1) := by decide +kernel
theorem dL_either_16 : decode cL_either 16 = .ok (.ireturn, 1) := by decide +kernel
theorem dL_either_17 : decode cL_either 17 = .ok (.astore 4, 2) := by decide +kernel
theorem dL_either_19 : decode cL_either 19 = .ok (.iconst 2, 1) := by decide +kernel
theorem dL_either_20 : decode cL_either 20 = .ok (.ireturn, 1) := by decide +kernel
theorem dL_either_21 : decode cL_either 21 = .ok (.astore 4, 2) := by decide +kernel
theorem dL_either_23 : decode cL_either 23 = .ok (.iconst 3, 1) := by decide +kernel
theorem dL_either_24 : decode cL_either 24 = .ok (.ireturn, 1) := by decide +kernel
theorem dL_either_25 : decode cL_either 25 = .ok (.iconst 0, 1) := by decide +kernel
theorem dL_either_26 : decode cL_either 26 = .ok (.ireturn, 1) := by decide +kernel
theorem dL_not_0 : decode cL_not 0 = .ok (.aload_n 2, 1) := by decide +kernel
theorem dL_not_1 : decode cL_not 1 = .ok (.iconst 0, 1) := by decide +kernel
theorem dL_not_2 : decode cL_not 2 = .ok (.aload_n 0, 1) := by decide +kernel
theorem dL_not_3 : decode cL_not 3 = .ok (.iload_n 1, 1) := by decide +kernel
theorem dL_not_4 : decode cL_not 4 = .ok (.invokevirtual 78, 3) := by decide +kernel
theorem dL_not_7 : decode cL_not 7 = .ok (.i2l, 1) := by decide +kernel
theorem dL_not_8 : decode cL_not 8 = .ok (.lastore, 1) := by decide +kernel
theorem dL_not_9 : decode cL_not 9 = .ok (.goto 12, 3) := by decide +kernel
theorem dL_not_12 : decode cL_not 12 = .ok (.astore_n 3, 1) := by decide +kernel
theorem dL_not_13 : decode cL_not 13 = .ok (.iconst 1, 1) := by decide +kernel
theorem dL_not_14 : decode cL_not 14 = .ok (.ireturn, 1) := by decide +kernel
theorem dL_not_15 : decode cL_not 15 = .ok (.astore_n 3, 1) := by decide +kernel
theorem dL_not_16 : decode cL_not 16 = .ok (.iconst 2, 1) := by decide +kernel
theorem dL_not_17 : decode cL_not 17 = .ok (.ireturn, 1) := by decide +kernel
theorem dL_not_18 : decode cL_not 18 = .ok (.astore_n 3, 1) := by decide +kernel
theorem dL_not_19 : decode cL_not 19 = .ok (.iconst 3, 1) := by decide +kernel
theorem dL_not_20 : decode cL_not 20 = .ok (.ireturn, 1) := by decide +kernel
theorem dL_not_21 : decode cL_not 21 = .ok (.iconst 0, 1) := by decide +kernel
theorem dL_not_22 : decode cL_not 22 = .ok (.ireturn, 1) := by decide +kernel
theorem dL_addList_0 : decode cL_addList 0 = .ok (.aload 4, 2) := by decide +kernel
theorem dL_addList_2 : decode cL_addList 2 = .ok (.iconst 0, 1) := by decide +kernel
theorem dL_addList_3 : decode cL_addList 3 = .ok (.aload_n 0, 1) := by decide +kernel
theorem dL_addList_4 : decode cL_addList 4 = .ok (.iload_n 1, 1) := by decide +kernel
theorem dL_addList_5 : decode cL_addList 5 = .ok (.iload_n 2, 1) := by decide +kernel
theorem dL_addList_6 : decode cL_addList 6 = .ok (.iload_n 3, 1) := by decide +kernel
theorem dL_addList_7 : decode cL_addList 7 = .ok (.invokevirtual 81, 3) := by decide +kernel
theorem dL_addList_10 : decode cL_addList 10 = .ok (.i2l, 1) := by decide +kernel
theorem dL_addList_11 : decode cL_addList 11 = .ok (.lastore, 1) := by decide +kernel
theorem dL_addList_12 : decode cL_addList 12 = .ok (.goto 15, 3) := by decide +kernel
theorem dL_addList_15 : decode cL_addList 15 = .ok (.astore 5, 2) := by decide +kernel
theorem dL_addList_17 : decode cL_addList 17 = .ok (.iconst 1, 1) := by decide +kernel
theorem dL_addList_18 : decode cL_addList 18 = .ok (.ireturn, 1) := by decide +kernel
theorem dL_addList_19 : decode cL_addList 19 = .ok (.astore 5, 2) := by decide +kernel
theorem dL_addList_21 : decode cL_addList 21 = .ok (.iconst 2, 1) := by decide +kernel
theorem dL_addList_22 : decode cL_addList 22 = .ok (.ireturn, 1) := by decide +kernel
theorem dL_addList_23 : decode cL_addList 23 = .ok (.astore 5, 2) := by decide +kernel
theorem dL_addList_25 : decode cL_addList 25 = .ok (.iconst 3, 1) := by decide +kernel
theorem dL_addList_26 : decode cL_addList 26 = .ok (.ireturn, 1) := by decide +kernel
theorem dL_addList_27 : decode cL_addList 27 = .ok (.iconst 0, 1) := by decide +kernel
theorem dL_addList_28 : decode cL_addList 28 = .ok (.ireturn, 1) := by decide +kernel
theorem dL_setRule_0 : decode cL_setRule 0 = .ok (.aload_n 3, 1) := by decide +kernel
theorem dL_setRule_1 : decode cL_setRule 1 = .ok (.iconst 0, 1) := by decide +kernel
theorem dL_setRule_2 : decode cL_setRule 2 = .ok (.aload_n 0, 1) := by decide +kernel
theorem dL_setRule_3 : decode cL_setRule 3 = .ok (.iload_n 1, 1) := by decide +kernel
theorem dL_setRule_4 : decode cL_setRule 4 = .ok (.iload_n 2, 1) := by decide +kernel
theorem dL_setRule_5 : decode cL_setRule 5 = .ok (.invokevirtual 85, 3) := by decide +kernel
theorem dL_setRule_8 : decode cL_setRule 8 = .ok (.i2l, 1) := by decide +kernel
theorem dL_setRule_9 : decode cL_setRule 9 = .ok (.lastore, 1) := by decide +kernel
theorem dL_setRule_10 : decode cL_setRule 10 = .ok (.goto 11, 3) := by decide +kernel
theorem dL_setRule_13 : decode cL_setRule 13 = .ok (.astore 4, 2) := by decide +kernel
theorem dL_setRule_15 : decode cL_setRule 15 = .ok (.iconst 1, 1) := by decide +kernel
theorem dL_setRule_16 : decode cL_setRule 16 = .ok (.ireturn, 1) := by decide +kernel
theorem dL_setRule_17 : decode cL_setRule 17 = .ok (.astore 4, 2) := by decide +kernel
theorem dL_setRule_19 : decode cL_setRule 19 = .ok (.iconst 2, 1) := by decide +kernel
theorem dL_setRule_20 : decode cL_setRule 20 = .ok (.ireturn, 1) := by decide +kernel
theorem dL_setRule_21 : decode cL_setRule 21 = .ok (.iconst 0, 1) := by decide +kernel
theorem dL_setRule_22 : decode cL_setRule 22 = .ok (.ireturn, 1) := by decide +kernel
theorem dL_setOrder_0 : decode cL_setOrder 0 = .ok (.aload_n 3, 1) := by decide +kernel
theorem dL_setOrder_1 : decode cL_setOrder 1 = .ok (.iconst 0, 1) := by decide +kernel
theorem dL_setOrder_2 : decode cL_setOrder 2 = .ok (.aload_n 0, 1) := by decide +kernel
theorem dL_setOrder_3 : decode cL_setOrder 3 = .ok (.iload_n 1, 1) := by decide +kernel
theorem dL_setOrder_4 : decode cL_setOrder 4 = .ok (.iload_n 2, 1) := by decide +kernel
theorem dL_setOrder_5 : decode cL_setOrder 5 = .ok (.invokevirtual 88, 3) := by decide +kernel
theorem dL_setOrder_8 : decode cL_setOrder 8 = .ok (.i2l, 1) := by decide +kernel
theorem dL_setOrder_9 : decode cL_setOrder 9 = .ok (.lastore, 1) := by decide +kernel
theorem dL_setOrder_10 : decode cL_setOrder 10 = .ok (.goto 11, 3) := by decide +kernel
theorem dL_setOrder_13 : decode cL_setOrder 13 = .ok (.astore 4, 2) := by decide +kernel
theorem dL_setOrder_15 : decode cL_setOrder 15 = .ok (.iconst 1, 1) := by decide +kernel
theorem dL_setOrder_16 : decode cL_setOrder 16 = .ok (.ireturn, 1) := by decide +kernel
theorem dL_setOrder_17 : decode cL_setOrder 17 = .ok (.astore 4, 2) := by decide +kernel
theorem dL_setOrder_19 : decode cL_setOrder 19 = .ok (.iconst 2, 1) := by decide +kernel
theorem dL_setOrder_20 : decode cL_setOrder 20 = .ok (.ireturn, 1) := by decide +kernel
theorem dL_setOrder_21 : decode cL_setOrder 21 = .ok (.iconst 0, 1) := by decide +kernel
theorem dL_setOrder_22 : decode cL_setOrder 22 = .ok (.ireturn, 1) := by decide +kernel
theorem dL_setLimit_0 : decode cL_setLimit 0 = .ok (.aload_n 3, 1) := by decide +kernel
theorem dL_setLimit_1 : decode cL_setLimit 1 = .ok (.iconst 0, 1) := by decide +kernel
theorem dL_setLimit_2 : decode cL_setLimit 2 = .ok (.aload_n 0, 1) := by decide +kernel
theorem dL_setLimit_3 : decode cL_setLimit 3 = .ok (.iload_n 1, 1) := by decide +kernel
theorem dL_setLimit_4 : decode cL_setLimit 4 = .ok (.iload_n 2, 1) := by decide +kernel
theorem dL_setLimit_5 : decode cL_setLimit 5 = .ok (.invokevirtual 92, 3) := by decide +kernel
theorem dL_setLimit_8 : decode cL_setLimit 8 = .ok (.i2l, 1) := by decide +kernel
theorem dL_setLimit_9 : decode cL_setLimit 9 = .ok (.lastore, 1) := by decide +kernel
theorem dL_setLimit_10 : decode cL_setLimit 10 = .ok (.goto 11, 3) := by decide +kernel
theorem dL_setLimit_13 : decode cL_setLimit 13 = .ok (.astore 4, 2) := by decide +kernel
theorem dL_setLimit_15 : decode cL_setLimit 15 = .ok (.iconst 1, 1) := by decide +kernel
theorem dL_setLimit_16 : decode cL_setLimit 16 = .ok (.ireturn, 1) := by decide +kernel
theorem dL_setLimit_17 : decode cL_setLimit 17 = .ok (.astore 4, 2) := by decide +kernel
theorem dL_setLimit_19 : decode cL_setLimit 19 = .ok (.iconst 2, 1) := by decide +kernel
theorem dL_setLimit_20 : decode cL_setLimit 20 = .ok (.ireturn, 1) := by decide +kernel
theorem dL_setLimit_21 : decode cL_setLimit 21 = .ok (.iconst 0, 1) := by decide +kernel
theorem dL_setLimit_22 : decode cL_setLimit 22 = .ok (.ireturn, 1) := by decide +kernel
theorem dL_lengthOf_0 : decode cL_lengthOf 0 = .ok (.aload_n 2, 1) := by decide +kernel
theorem dL_lengthOf_1 : decode cL_lengthOf 1 = .ok (.iconst 0, 1) := by decide +kernel
theorem dL_lengthOf_2 : decode cL_lengthOf 2 = .ok (.aload_n 0, 1) := by decide +kernel
theorem dL_lengthOf_3 : decode cL_lengthOf 3 = .ok (.iload_n 1, 1) := by decide +kernel
theorem dL_lengthOf_4 : decode cL_lengthOf 4 = .ok (.invokevirtual 95, 3) := by decide +kernel
theorem dL_lengthOf_7 : decode cL_lengthOf 7 = .ok (.i2l, 1) := by decide +kernel
theorem dL_lengthOf_8 : decode cL_lengthOf 8 = .ok (.lastore, 1) := by decide +kernel
theorem dL_lengthOf_9 : decode cL_lengthOf 9 = .ok (.goto 6, 3) := by decide +kernel
theorem dL_lengthOf_12 : decode cL_lengthOf 12 = .ok (.astore_n 3, 1) := by decide +kernel
theorem dL_lengthOf_13 : decode cL_lengthOf 13 = .ok (.iconst 1, 1) := by decide +kernel
theorem dL_lengthOf_14 : decode cL_lengthOf 14 = .ok (.ireturn, 1) := by decide +kernel
theorem dL_lengthOf_15 : decode cL_lengthOf 15 = .ok (.iconst 0, 1) := by decide +kernel
theorem dL_lengthOf_16 : decode cL_lengthOf 16 = .ok (.ireturn, 1) := by decide +kernel
theorem dL_ratingOf_0 : decode cL_ratingOf 0 = .ok (.aload_n 2, 1) := by decide +kernel
theorem dL_ratingOf_1 : decode cL_ratingOf 1 = .ok (.iconst 0, 1) := by decide +kernel
theorem dL_ratingOf_2 : decode cL_ratingOf 2 = .ok (.aload_n 0, 1) := by decide +kernel
theorem dL_ratingOf_3 : decode cL_ratingOf 3 = .ok (.iload_n 1, 1) := by decide +kernel
theorem dL_ratingOf_4 : decode cL_ratingOf 4 = .ok (.invokevirtual 98, 3) := by decide +kernel
theorem dL_ratingOf_7 : decode cL_ratingOf 7 = .ok (.i2l, 1) := by decide +kernel
theorem dL_ratingOf_8 : decode cL_ratingOf 8 = .ok (.lastore, 1) := by decide +kernel
theorem dL_ratingOf_9 : decode cL_ratingOf 9 = .ok (.goto 6, 3) := by decide +kernel
theorem dL_ratingOf_12 : decode cL_ratingOf 12 = .ok (.astore_n 3, 1) := by decide +kernel
theorem dL_ratingOf_13 : decode cL_ratingOf 13 = .ok (.iconst 1, 1) := by decide +kernel
theorem dL_ratingOf_14 : decode cL_ratingOf 14 = .ok (.ireturn, 1) := by decide +kernel
theorem dL_ratingOf_15 : decode cL_ratingOf 15 = .ok (.iconst 0, 1) := by decide +kernel
theorem dL_ratingOf_16 : decode cL_ratingOf 16 = .ok (.ireturn, 1) := by decide +kernel
theorem dL_playsOf_0 : decode cL_playsOf 0 = .ok (.aload_n 2, 1) := by decide +kernel
theorem dL_playsOf_1 : decode cL_playsOf 1 = .ok (.iconst 0, 1) := by decide +kernel
theorem dL_playsOf_2 : decode cL_playsOf 2 = .ok (.aload_n 0, 1) := by decide +kernel
theorem dL_playsOf_3 : decode cL_playsOf 3 = .ok (.iload_n 1, 1) := by decide +kernel
theorem dL_playsOf_4 : decode cL_playsOf 4 = .ok (.invokevirtual 101, 3) := by decide +kernel
theorem dL_playsOf_7 : decode cL_playsOf 7 = .ok (.i2l, 1) := by decide +kernel
theorem dL_playsOf_8 : decode cL_playsOf 8 = .ok (.lastore, 1) := by decide +kernel
theorem dL_playsOf_9 : decode cL_playsOf 9 = .ok (.goto 6, 3) := by decide +kernel
theorem dL_playsOf_12 : decode cL_playsOf 12 = .ok (.astore_n 3, 1) := by decide +kernel
theorem dL_playsOf_13 : decode cL_playsOf 13 = .ok (.iconst 1, 1) := by decide +kernel
theorem dL_playsOf_14 : decode cL_playsOf 14 = .ok (.ireturn, 1) := by decide +kernel
theorem dL_playsOf_15 : decode cL_playsOf 15 = .ok (.iconst 0, 1) := by decide +kernel
theorem dL_playsOf_16 : decode cL_playsOf 16 = .ok (.ireturn, 1) := by decide +kernel
theorem dL_playedLast_0 : decode cL_playedLast 0 = .ok (.aload_n 2, 1) := by decide +kernel
theorem dL_playedLast_1 : decode cL_playedLast 1 = .ok (.iconst 0, 1) := by decide +kernel
theorem dL_playedLast_2 : decode cL_playedLast 2 = .ok (.aload_n 0, 1) := by decide +kernel
theorem dL_playedLast_3 : decode cL_playedLast 3 = .ok (.iload_n 1, 1) := by decide +kernel
theorem dL_playedLast_4 : decode cL_playedLast 4 = .ok (.invokevirtual 104, 3) := by decide +kernel
theorem dL_playedLast_7 : decode cL_playedLast 7 = .ok (.i2l, 1) := by decide +kernel
theorem dL_playedLast_8 : decode cL_playedLast 8 = .ok (.lastore, 1) := by decide +kernel
theorem dL_playedLast_9 : decode cL_playedLast 9 = .ok (.goto 9, 3) := by decide +kernel
theorem dL_playedLast_12 : decode cL_playedLast 12 = .ok (.astore_n 3, 1) := by decide +kernel
theorem dL_playedLast_13 : decode cL_playedLast 13 = .ok (.iconst 1, 1) := by decide +kernel
theorem dL_playedLast_14 : decode cL_playedLast 14 = .ok (.ireturn, 1) := by decide +kernel
theorem dL_playedLast_15 : decode cL_playedLast 15 = .ok (.astore_n 3, 1) := by decide +kernel
theorem dL_playedLast_16 : decode cL_playedLast 16 = .ok (.iconst 2, 1) := by decide +kernel
theorem dL_playedLast_17 : decode cL_playedLast 17 = .ok (.ireturn, 1) := by decide +kernel
theorem dL_playedLast_18 : decode cL_playedLast 18 = .ok (.iconst 0, 1) := by decide +kernel
theorem dL_playedLast_19 : decode cL_playedLast 19 = .ok (.ireturn, 1) := by decide +kernel
theorem dL_tagBits_0 : decode cL_tagBits 0 = .ok (.aload_n 2, 1) := by decide +kernel
theorem dL_tagBits_1 : decode cL_tagBits 1 = .ok (.iconst 0, 1) := by decide +kernel
theorem dL_tagBits_2 : decode cL_tagBits 2 = .ok (.aload_n 0, 1) := by decide +kernel
theorem dL_tagBits_3 : decode cL_tagBits 3 = .ok (.iload_n 1, 1) := by decide +kernel
theorem dL_tagBits_4 : decode cL_tagBits 4 = .ok (.invokevirtual 107, 3) := by decide +kernel
theorem dL_tagBits_7 : decode cL_tagBits 7 = .ok (.i2l, 1) := by decide +kernel
theorem dL_tagBits_8 : decode cL_tagBits 8 = .ok (.lastore, 1) := by decide +kernel
theorem dL_tagBits_9 : decode cL_tagBits 9 = .ok (.goto 6, 3) := by decide +kernel
theorem dL_tagBits_12 : decode cL_tagBits 12 = .ok (.astore_n 3, 1) := by decide +kernel
theorem dL_tagBits_13 : decode cL_tagBits 13 = .ok (.iconst 1, 1) := by decide +kernel
theorem dL_tagBits_14 : decode cL_tagBits 14 = .ok (.ireturn, 1) := by decide +kernel
theorem dL_tagBits_15 : decode cL_tagBits 15 = .ok (.iconst 0, 1) := by decide +kernel
theorem dL_tagBits_16 : decode cL_tagBits 16 = .ok (.ireturn, 1) := by decide +kernel
theorem dL_nameLength_0 : decode cL_nameLength 0 = .ok (.aload_n 2, 1) := by decide +kernel
theorem dL_nameLength_1 : decode cL_nameLength 1 = .ok (.iconst 0, 1) := by decide +kernel
theorem dL_nameLength_2 : decode cL_nameLength 2 = .ok (.aload_n 0, 1) := by decide +kernel
theorem dL_nameLength_3 : decode cL_nameLength 3 = .ok (.iload_n 1, 1) := by decide +kernel
theorem dL_nameLength_4 : decode cL_nameLength 4 = .ok (.invokevirtual 110, 3) := by decide +kernel
theorem dL_nameLength_7 : decode cL_nameLength 7 = .ok (.i2l, 1) := by decide +kernel
theorem dL_nameLength_8 : decode cL_nameLength 8 = .ok (.lastore, 1) := by decide +kernel
theorem dL_nameLength_9 : decode cL_nameLength 9 = .ok (.goto 6, 3) := by decide +kernel
theorem dL_nameLength_12 : decode cL_nameLength 12 = .ok (.astore_n 3, 1) := by decide +kernel
theorem dL_nameLength_13 : decode cL_nameLength 13 = .ok (.iconst 1, 1) := by decide +kernel
theorem dL_nameLength_14 : decode cL_nameLength 14 = .ok (.ireturn, 1) := by decide +kernel
theorem dL_nameLength_15 : decode cL_nameLength 15 = .ok (.iconst 0, 1) := by decide +kernel
theorem dL_nameLength_16 : decode cL_nameLength 16 = .ok (.ireturn, 1) := by decide +kernel
theorem dL_nameAt_0 : decode cL_nameAt 0 = .ok (.aload_n 3, 1) := by decide +kernel
theorem dL_nameAt_1 : decode cL_nameAt 1 = .ok (.iconst 0, 1) := by decide +kernel
theorem dL_nameAt_2 : decode cL_nameAt 2 = .ok (.aload_n 0, 1) := by decide +kernel
theorem dL_nameAt_3 : decode cL_nameAt 3 = .ok (.iload_n 1, 1) := by decide +kernel
theorem dL_nameAt_4 : decode cL_nameAt 4 = .ok (.iload_n 2, 1) := by decide +kernel
theorem dL_nameAt_5 : decode cL_nameAt 5 = .ok (.invokevirtual 113, 3) := by decide +kernel
theorem dL_nameAt_8 : decode cL_nameAt 8 = .ok (.i2l, 1) := by decide +kernel
theorem dL_nameAt_9 : decode cL_nameAt 9 = .ok (.lastore, 1) := by decide +kernel
theorem dL_nameAt_10 : decode cL_nameAt 10 = .ok (.goto 11, 3) := by decide +kernel
theorem dL_nameAt_13 : decode cL_nameAt 13 = .ok (.astore 4, 2) := by decide +kernel
theorem dL_nameAt_15 : decode cL_nameAt 15 = .ok (.iconst 1, 1) := by decide +kernel
theorem dL_nameAt_16 : decode cL_nameAt 16 = .ok (.ireturn, 1) := by decide +kernel
theorem dL_nameAt_17 : decode cL_nameAt 17 = .ok (.astore 4, 2) := by decide +kernel
theorem dL_nameAt_19 : decode cL_nameAt 19 = .ok (.iconst 2, 1) := by decide +kernel
theorem dL_nameAt_20 : decode cL_nameAt 20 = .ok (.ireturn, 1) := by decide +kernel
theorem dL_nameAt_21 : decode cL_nameAt 21 = .ok (.iconst 0, 1) := by decide +kernel
theorem dL_nameAt_22 : decode cL_nameAt 22 = .ok (.ireturn, 1) := by decide +kernel
theorem dL_distance_0 : decode cL_distance 0 = .ok (.aload_n 3, 1) := by decide +kernel
theorem dL_distance_1 : decode cL_distance 1 = .ok (.iconst 0, 1) := by decide +kernel
theorem dL_distance_2 : decode cL_distance 2 = .ok (.aload_n 0, 1) := by decide +kernel
theorem dL_distance_3 : decode cL_distance 3 = .ok (.iload_n 1, 1) := by decide +kernel
theorem dL_distance_4 : decode cL_distance 4 = .ok (.iload_n 2, 1) := by decide +kernel
theorem dL_distance_5 : decode cL_distance 5 = .ok (.invokevirtual 119, 3) := by decide +kernel
theorem dL_distance_8 : decode cL_distance 8 = .ok (.i2l, 1) := by decide +kernel
theorem dL_distance_9 : decode cL_distance 9 = .ok (.lastore, 1) := by decide +kernel
theorem dL_distance_10 : decode cL_distance 10 = .ok (.goto 7, 3) := by decide +kernel
theorem dL_distance_13 : decode cL_distance 13 = .ok (.astore 4, 2) := by decide +kernel
theorem dL_distance_15 : decode cL_distance 15 = .ok (.iconst 1, 1) := by decide +kernel
theorem dL_distance_16 : decode cL_distance 16 = .ok (.ireturn, 1) := by decide +kernel
theorem dL_distance_17 : decode cL_distance 17 = .ok (.iconst 0, 1) := by decide +kernel
theorem dL_distance_18 : decode cL_distance 18 = .ok (.ireturn, 1) := by decide +kernel
theorem dL_distanceByTrying_0 : decode cL_distanceByTrying 0 = .ok (.aload_n 3, 1) := by decide +kernel
theorem dL_distanceByTrying_1 : decode cL_distanceByTrying 1 = .ok (.iconst 0, 1) := by decide +kernel
theorem dL_distanceByTrying_2 : decode cL_distanceByTrying 2 = .ok (.aload_n 0, 1) := by decide +kernel
theorem dL_distanceByTrying_3 : decode cL_distanceByTrying 3 = .ok (.iload_n 1, 1) := by decide +kernel
theorem dL_distanceByTrying_4 : decode cL_distanceByTrying 4 = .ok (.iload_n 2, 1) := by decide +kernel
theorem dL_distanceByTrying_5 : decode cL_distanceByTrying 5 = .ok (.invokevirtual 122, 3) := by decide +kernel
theorem dL_distanceByTrying_8 : decode cL_distanceByTrying 8 = .ok (.i2l, 1) := by decide +kernel
theorem dL_distanceByTrying_9 : decode cL_distanceByTrying 9 = .ok (.lastore, 1) := by decide +kernel
theorem dL_distanceByTrying_10 : decode cL_distanceByTrying 10 = .ok (.goto 7, 3) := by decide +kernel
theorem dL_distanceByTrying_13 : decode cL_distanceByTrying 13 = .ok (.astore 4, 2) := by decide +kernel
theorem dL_distanceByTrying_15 : decode cL_distanceByTrying 15 = .ok (.iconst 1, 1) := by decide +kernel
theorem dL_distanceByTrying_16 : decode cL_distanceByTrying 16 = .ok (.ireturn, 1) := by decide +kernel
theorem dL_distanceByTrying_17 : decode cL_distanceByTrying 17 = .ok (.iconst 0, 1) := by decide +kernel
theorem dL_distanceByTrying_18 : decode cL_distanceByTrying 18 = .ok (.ireturn, 1) := by decide +kernel
theorem dL_nearest_0 : decode cL_nearest 0 = .ok (.aload_n 2, 1) := by decide +kernel
theorem dL_nearest_1 : decode cL_nearest 1 = .ok (.iconst 0, 1) := by decide +kernel
theorem dL_nearest_2 : decode cL_nearest 2 = .ok (.aload_n 0, 1) := by decide +kernel
theorem dL_nearest_3 : decode cL_nearest 3 = .ok (.iload_n 1, 1) := by decide +kernel
theorem dL_nearest_4 : decode cL_nearest 4 = .ok (.invokevirtual 125, 3) := by decide +kernel
theorem dL_nearest_7 : decode cL_nearest 7 = .ok (.i2l, 1) := by decide +kernel
theorem dL_nearest_8 : decode cL_nearest 8 = .ok (.lastore, 1) := by decide +kernel
theorem dL_nearest_9 : decode cL_nearest 9 = .ok (.goto 9, 3) := by decide +kernel
theorem dL_nearest_12 : decode cL_nearest 12 = .ok (.astore_n 3, 1) := by decide +kernel
theorem dL_nearest_13 : decode cL_nearest 13 = .ok (.iconst 1, 1) := by decide +kernel
theorem dL_nearest_14 : decode cL_nearest 14 = .ok (.ireturn, 1) := by decide +kernel
theorem dL_nearest_15 : decode cL_nearest 15 = .ok (.astore_n 3, 1) := by decide +kernel
theorem dL_nearest_16 : decode cL_nearest 16 = .ok (.iconst 2, 1) := by decide +kernel
theorem dL_nearest_17 : decode cL_nearest 17 = .ok (.ireturn, 1) := by decide +kernel
theorem dL_nearest_18 : decode cL_nearest 18 = .ok (.iconst 0, 1) := by decide +kernel
theorem dL_nearest_19 : decode cL_nearest 19 = .ok (.ireturn, 1) := by decide +kernel
theorem dL_sizeOf_0 : decode cL_sizeOf 0 = .ok (.aload_n 2, 1) := by decide +kernel
theorem dL_sizeOf_1 : decode cL_sizeOf 1 = .ok (.iconst 0, 1) := by decide +kernel
theorem dL_sizeOf_2 : decode cL_sizeOf 2 = .ok (.aload_n 0, 1) := by decide +kernel
theorem dL_sizeOf_3 : decode cL_sizeOf 3 = .ok (.iload_n 1, 1) := by decide +kernel
theorem dL_sizeOf_4 : decode cL_sizeOf 4 = .ok (.invokevirtual 128, 3) := by decide +kernel
theorem dL_sizeOf_7 : decode cL_sizeOf 7 = .ok (.i2l, 1) := by decide +kernel
theorem dL_sizeOf_8 : decode cL_sizeOf 8 = .ok (.lastore, 1) := by decide +kernel
theorem dL_sizeOf_9 : decode cL_sizeOf 9 = .ok (.goto 6, 3) := by decide +kernel
theorem dL_sizeOf_12 : decode cL_sizeOf 12 = .ok (.astore_n 3, 1) := by decide +kernel
theorem dL_sizeOf_13 : decode cL_sizeOf 13 = .ok (.iconst 1, 1) := by decide +kernel
theorem dL_sizeOf_14 : decode cL_sizeOf 14 = .ok (.ireturn, 1) := by decide +kernel
theorem dL_sizeOf_15 : decode cL_sizeOf 15 = .ok (.iconst 0, 1) := by decide +kernel
theorem dL_sizeOf_16 : decode cL_sizeOf 16 = .ok (.ireturn, 1) := by decide +kernel
theorem dL_holds_0 : decode cL_holds 0 = .ok (.aload_n 3, 1) := by decide +kernel
theorem dL_holds_1 : decode cL_holds 1 = .ok (.iconst 0, 1) := by decide +kernel
theorem dL_holds_2 : decode cL_holds 2 = .ok (.aload_n 0, 1) := by decide +kernel
theorem dL_holds_3 : decode cL_holds 3 = .ok (.iload_n 1, 1) := by decide +kernel
theorem dL_holds_4 : decode cL_holds 4 = .ok (.iload_n 2, 1) := by decide +kernel
theorem dL_holds_5 : decode cL_holds 5 = .ok (.invokevirtual 131, 3) := by decide +kernel
theorem dL_holds_8 : decode cL_holds 8 = .ok (.ifCond .eq 7, 3) := by decide +kernel
theorem dL_holds_11 : decode cL_holds 11 = .ok (.lconst 1, 1) := by decide +kernel
theorem dL_holds_12 : decode cL_holds 12 = .ok (.goto 4, 3) := by decide +kernel
theorem dL_holds_15 : decode cL_holds 15 = .ok (.lconst 0, 1) := by decide +kernel
theorem dL_holds_16 : decode cL_holds 16 = .ok (.lastore, 1) := by decide +kernel
theorem dL_holds_17 : decode cL_holds 17 = .ok (.goto 7, 3) := by decide +kernel
theorem dL_holds_20 : decode cL_holds 20 = .ok (.astore 4, 2) := by decide +kernel
theorem dL_holds_22 : decode cL_holds 22 = .ok (.iconst 1, 1) := by decide +kernel
theorem dL_holds_23 : decode cL_holds 23 = .ok (.ireturn, 1) := by decide +kernel
theorem dL_holds_24 : decode cL_holds 24 = .ok (.iconst 0, 1) := by decide +kernel
theorem dL_holds_25 : decode cL_holds 25 = .ok (.ireturn, 1) := by decide +kernel
theorem dL_matches_0 : decode cL_matches 0 = .ok (.aload_n 2, 1) := by decide +kernel
theorem dL_matches_1 : decode cL_matches 1 = .ok (.iconst 0, 1) := by decide +kernel
theorem dL_matches_2 : decode cL_matches 2 = .ok (.aload_n 0, 1) := by decide +kernel
theorem dL_matches_3 : decode cL_matches 3 = .ok (.iload_n 1, 1) := by decide +kernel
theorem dL_matches_4 : decode cL_matches 4 = .ok (.invokevirtual 135, 3) := by decide +kernel
theorem dL_matches_7 : decode cL_matches 7 = .ok (.i2l, 1) := by decide +kernel
theorem dL_matches_8 : decode cL_matches 8 = .ok (.lastore, 1) := by decide +kernel
theorem dL_matches_9 : decode cL_matches 9 = .ok (.goto 6, 3) := by decide +kernel
theorem dL_matches_12 : decode cL_matches 12 = .ok (.astore_n 3, 1) := by decide +kernel
theorem dL_matches_13 : decode cL_matches 13 = .ok (.iconst 1, 1) := by decide +kernel
theorem dL_matches_14 : decode cL_matches 14 = .ok (.ireturn, 1) := by decide +kernel
theorem dL_matches_15 : decode cL_matches 15 = .ok (.iconst 0, 1) := by decide +kernel
theorem dL_matches_16 : decode cL_matches 16 = .ok (.ireturn, 1) := by decide +kernel
theorem dL_size_0 : decode cL_size 0 = .ok (.aload_n 2, 1) := by decide +kernel
theorem dL_size_1 : decode cL_size 1 = .ok (.iconst 0, 1) := by decide +kernel
theorem dL_size_2 : decode cL_size 2 = .ok (.aload_n 0, 1) := by decide +kernel
theorem dL_size_3 : decode cL_size 3 = .ok (.iload_n 1, 1) := by decide +kernel
theorem dL_size_4 : decode cL_size 4 = .ok (.invokevirtual 138, 3) := by decide +kernel
theorem dL_size_7 : decode cL_size 7 = .ok (.i2l, 1) := by decide +kernel
theorem dL_size_8 : decode cL_size 8 = .ok (.lastore, 1) := by decide +kernel
theorem dL_size_9 : decode cL_size 9 = .ok (.goto 6, 3) := by decide +kernel
theorem dL_size_12 : decode cL_size 12 = .ok (.astore_n 3, 1) := by decide +kernel
theorem dL_size_13 : decode cL_size 13 = .ok (.iconst 1, 1) := by decide +kernel
theorem dL_size_14 : decode cL_size 14 = .ok (.ireturn, 1) := by decide +kernel
theorem dL_size_15 : decode cL_size 15 = .ok (.iconst 0, 1) := by decide +kernel
theorem dL_size_16 : decode cL_size 16 = .ok (.ireturn, 1) := by decide +kernel
theorem dL_trackAt_0 : decode cL_trackAt 0 = .ok (.aload_n 3, 1) := by decide +kernel
theorem dL_trackAt_1 : decode cL_trackAt 1 = .ok (.iconst 0, 1) := by decide +kernel
theorem dL_trackAt_2 : decode cL_trackAt 2 = .ok (.aload_n 0, 1) := by decide +kernel
theorem dL_trackAt_3 : decode cL_trackAt 3 = .ok (.iload_n 1, 1) := by decide +kernel
theorem dL_trackAt_4 : decode cL_trackAt 4 = .ok (.iload_n 2, 1) := by decide +kernel
theorem dL_trackAt_5 : decode cL_trackAt 5 = .ok (.invokevirtual 141, 3) := by decide +kernel
theorem dL_trackAt_8 : decode cL_trackAt 8 = .ok (.i2l, 1) := by decide +kernel
theorem dL_trackAt_9 : decode cL_trackAt 9 = .ok (.lastore, 1) := by decide +kernel
theorem dL_trackAt_10 : decode cL_trackAt 10 = .ok (.goto 11, 3) := by decide +kernel
theorem dL_trackAt_13 : decode cL_trackAt 13 = .ok (.astore 4, 2) := by decide +kernel
theorem dL_trackAt_15 : decode cL_trackAt 15 = .ok (.iconst 1, 1) := by decide +kernel
theorem dL_trackAt_16 : decode cL_trackAt 16 = .ok (.ireturn, 1) := by decide +kernel
theorem dL_trackAt_17 : decode cL_trackAt 17 = .ok (.astore 4, 2) := by decide +kernel
theorem dL_trackAt_19 : decode cL_trackAt 19 = .ok (.iconst 2, 1) := by decide +kernel
theorem dL_trackAt_20 : decode cL_trackAt 20 = .ok (.ireturn, 1) := by decide +kernel
theorem dL_trackAt_21 : decode cL_trackAt 21 = .ok (.iconst 0, 1) := by decide +kernel
theorem dL_trackAt_22 : decode cL_trackAt 22 = .ok (.ireturn, 1) := by decide +kernel
theorem dL_contains_0 : decode cL_contains 0 = .ok (.aload_n 3, 1) := by decide +kernel
theorem dL_contains_1 : decode cL_contains 1 = .ok (.iconst 0, 1) := by decide +kernel
theorem dL_contains_2 : decode cL_contains 2 = .ok (.aload_n 0, 1) := by decide +kernel
theorem dL_contains_3 : decode cL_contains 3 = .ok (.iload_n 1, 1) := by decide +kernel
theorem dL_contains_4 : decode cL_contains 4 = .ok (.iload_n 2, 1) := by decide +kernel
theorem dL_contains_5 : decode cL_contains 5 = .ok (.invokevirtual 144, 3) := by decide +kernel
theorem dL_contains_8 : decode cL_contains 8 = .ok (.ifCond .eq 7, 3) := by decide +kernel
theorem dL_contains_11 : decode cL_contains 11 = .ok (.lconst 1, 1) := by decide +kernel
theorem dL_contains_12 : decode cL_contains 12 = .ok (.goto 4, 3) := by decide +kernel
theorem dL_contains_15 : decode cL_contains 15 = .ok (.lconst 0, 1) := by decide +kernel
theorem dL_contains_16 : decode cL_contains 16 = .ok (.lastore, 1) := by decide +kernel
theorem dL_contains_17 : decode cL_contains 17 = .ok (.goto 7, 3) := by decide +kernel
theorem dL_contains_20 : decode cL_contains 20 = .ok (.astore 4, 2) := by decide +kernel
theorem dL_contains_22 : decode cL_contains 22 = .ok (.iconst 1, 1) := by decide +kernel
theorem dL_contains_23 : decode cL_contains 23 = .ok (.ireturn, 1) := by decide +kernel
theorem dL_contains_24 : decode cL_contains 24 = .ok (.iconst 0, 1) := by decide +kernel
theorem dL_contains_25 : decode cL_contains 25 = .ok (.ireturn, 1) := by decide +kernel
theorem dL_containsByRounds_0 : decode cL_containsByRounds 0 = .ok (.aload_n 3, 1) := by decide +kernel
theorem dL_containsByRounds_1 : decode cL_containsByRounds 1 = .ok (.iconst 0, 1) := by decide +kernel
theorem dL_containsByRounds_2 : decode cL_containsByRounds 2 = .ok (.aload_n 0, 1) := by decide +kernel
theorem dL_containsByRounds_3 : decode cL_containsByRounds 3 = .ok (.iload_n 1, 1) := by decide +kernel
theorem dL_containsByRounds_4 : decode cL_containsByRounds 4 = .ok (.iload_n 2, 1) := by decide +kernel
theorem dL_containsByRounds_5 : decode cL_containsByRounds 5 = .ok (.invokevirtual 147, 3) := by decide +kernel
theorem dL_containsByRounds_8 : decode cL_containsByRounds 8 = .ok (.ifCond .eq 7, 3) := by decide +kernel
theorem dL_containsByRounds_11 : decode cL_containsByRounds 11 = .ok (.lconst 1, 1) := by decide +kernel
theorem dL_containsByRounds_12 : decode cL_containsByRounds 12 = .ok (.goto 4, 3) := by decide +kernel
theorem dL_containsByRounds_15 : decode cL_containsByRounds 15 = .ok (.lconst 0, 1) := by decide +kernel
theorem dL_containsByRounds_16 : decode cL_containsByRounds 16 = .ok (.lastore, 1) := by decide +kernel
theorem dL_containsByRounds_17 : decode cL_containsByRounds 17 = .ok (.goto 7, 3) := by decide +kernel
theorem dL_containsByRounds_20 : decode cL_containsByRounds 20 = .ok (.astore 4, 2) := by decide +kernel
theorem dL_containsByRounds_22 : decode cL_containsByRounds 22 = .ok (.iconst 1, 1) := by decide +kernel
theorem dL_containsByRounds_23 : decode cL_containsByRounds 23 = .ok (.ireturn, 1) := by decide +kernel
theorem dL_containsByRounds_24 : decode cL_containsByRounds 24 = .ok (.iconst 0, 1) := by decide +kernel
theorem dL_containsByRounds_25 : decode cL_containsByRounds 25 = .ok (.ireturn, 1) := by decide +kernel
theorem dL_secondsOf_0 : decode cL_secondsOf 0 = .ok (.aload_n 2, 1) := by decide +kernel
theorem dL_secondsOf_1 : decode cL_secondsOf 1 = .ok (.iconst 0, 1) := by decide +kernel
theorem dL_secondsOf_2 : decode cL_secondsOf 2 = .ok (.aload_n 0, 1) := by decide +kernel
theorem dL_secondsOf_3 : decode cL_secondsOf 3 = .ok (.iload_n 1, 1) := by decide +kernel
theorem dL_secondsOf_4 : decode cL_secondsOf 4 = .ok (.invokevirtual 150, 3) := by decide +kernel
theorem dL_secondsOf_7 : decode cL_secondsOf 7 = .ok (.i2l, 1) := by decide +kernel
theorem dL_secondsOf_8 : decode cL_secondsOf 8 = .ok (.lastore, 1) := by decide +kernel
theorem dL_secondsOf_9 : decode cL_secondsOf 9 = .ok (.goto 6, 3) := by decide +kernel
theorem dL_secondsOf_12 : decode cL_secondsOf 12 = .ok (.astore_n 3, 1) := by decide +kernel
theorem dL_secondsOf_13 : decode cL_secondsOf 13 = .ok (.iconst 1, 1) := by decide +kernel
theorem dL_secondsOf_14 : decode cL_secondsOf 14 = .ok (.ireturn, 1) := by decide +kernel
theorem dL_secondsOf_15 : decode cL_secondsOf 15 = .ok (.iconst 0, 1) := by decide +kernel
theorem dL_secondsOf_16 : decode cL_secondsOf 16 = .ok (.ireturn, 1) := by decide +kernel
theorem dL_common_0 : decode cL_common 0 = .ok (.aload_n 3, 1) := by decide +kernel
theorem dL_common_1 : decode cL_common 1 = .ok (.iconst 0, 1) := by decide +kernel
theorem dL_common_2 : decode cL_common 2 = .ok (.aload_n 0, 1) := by decide +kernel
theorem dL_common_3 : decode cL_common 3 = .ok (.iload_n 1, 1) := by decide +kernel
theorem dL_common_4 : decode cL_common 4 = .ok (.iload_n 2, 1) := by decide +kernel
theorem dL_common_5 : decode cL_common 5 = .ok (.invokevirtual 153, 3) := by decide +kernel
theorem dL_common_8 : decode cL_common 8 = .ok (.i2l, 1) := by decide +kernel
theorem dL_common_9 : decode cL_common 9 = .ok (.lastore, 1) := by decide +kernel
theorem dL_common_10 : decode cL_common 10 = .ok (.goto 7, 3) := by decide +kernel
theorem dL_common_13 : decode cL_common 13 = .ok (.astore 4, 2) := by decide +kernel
theorem dL_common_15 : decode cL_common 15 = .ok (.iconst 1, 1) := by decide +kernel
theorem dL_common_16 : decode cL_common 16 = .ok (.ireturn, 1) := by decide +kernel
theorem dL_common_17 : decode cL_common 17 = .ok (.iconst 0, 1) := by decide +kernel
theorem dL_common_18 : decode cL_common 18 = .ok (.ireturn, 1) := by decide +kernel
theorem dL_dependsOn_0 : decode cL_dependsOn 0 = .ok (.aload_n 3, 1) := by decide +kernel
theorem dL_dependsOn_1 : decode cL_dependsOn 1 = .ok (.iconst 0, 1) := by decide +kernel
theorem dL_dependsOn_2 : decode cL_dependsOn 2 = .ok (.aload_n 0, 1) := by decide +kernel
theorem dL_dependsOn_3 : decode cL_dependsOn 3 = .ok (.iload_n 1, 1) := by decide +kernel
theorem dL_dependsOn_4 : decode cL_dependsOn 4 = .ok (.iload_n 2, 1) := by decide +kernel
theorem dL_dependsOn_5 : decode cL_dependsOn 5 = .ok (.invokevirtual 156, 3) := by decide +kernel
theorem dL_dependsOn_8 : decode cL_dependsOn 8 = .ok (.ifCond .eq 7, 3) := by decide +kernel
theorem dL_dependsOn_11 : decode cL_dependsOn 11 = .ok (.lconst 1, 1) := by decide +kernel
theorem dL_dependsOn_12 : decode cL_dependsOn 12 = .ok (.goto 4, 3) := by decide +kernel
theorem dL_dependsOn_15 : decode cL_dependsOn 15 = .ok (.lconst 0, 1) := by decide +kernel
theorem dL_dependsOn_16 : decode cL_dependsOn 16 = .ok (.lastore, 1) := by decide +kernel
theorem dL_dependsOn_17 : decode cL_dependsOn 17 = .ok (.goto 7, 3) := by decide +kernel
theorem dL_dependsOn_20 : decode cL_dependsOn 20 = .ok (.astore 4, 2) := by decide +kernel
theorem dL_dependsOn_22 : decode cL_dependsOn 22 = .ok (.iconst 1, 1) := by decide +kernel
theorem dL_dependsOn_23 : decode cL_dependsOn 23 = .ok (.ireturn, 1) := by decide +kernel
theorem dL_dependsOn_24 : decode cL_dependsOn 24 = .ok (.iconst 0, 1) := by decide +kernel
theorem dL_dependsOn_25 : decode cL_dependsOn 25 = .ok (.ireturn, 1) := by decide +kernel
theorem dL_mixes_0 : decode cL_mixes 0 = .ok (.aload_n 2, 1) := by decide +kernel
theorem dL_mixes_1 : decode cL_mixes 1 = .ok (.iconst 0, 1) := by decide +kernel
theorem dL_mixes_2 : decode cL_mixes 2 = .ok (.aload_n 0, 1) := by decide +kernel
theorem dL_mixes_3 : decode cL_mixes 3 = .ok (.iload_n 1, 1) := by decide +kernel
theorem dL_mixes_4 : decode cL_mixes 4 = .ok (.invokevirtual 159, 3) := by decide +kernel
theorem dL_mixes_7 : decode cL_mixes 7 = .ok (.i2l, 1) := by decide +kernel
theorem dL_mixes_8 : decode cL_mixes 8 = .ok (.lastore, 1) := by decide +kernel
theorem dL_mixes_9 : decode cL_mixes 9 = .ok (.goto 9, 3) := by decide +kernel
theorem dL_mixes_12 : decode cL_mixes 12 = .ok (.astore_n 3, 1) := by decide +kernel
theorem dL_mixes_13 : decode cL_mixes 13 = .ok (.iconst 1, 1) := by decide +kernel
theorem dL_mixes_14 : decode cL_mixes 14 = .ok (.ireturn, 1) := by decide +kernel
theorem dL_mixes_15 : decode cL_mixes 15 = .ok (.astore_n 3, 1) := by decide +kernel
theorem dL_mixes_16 : decode cL_mixes 16 = .ok (.iconst 2, 1) := by decide +kernel
theorem dL_mixes_17 : decode cL_mixes 17 = .ok (.ireturn, 1) := by decide +kernel
theorem dL_mixes_18 : decode cL_mixes 18 = .ok (.iconst 0, 1) := by decide +kernel
theorem dL_mixes_19 : decode cL_mixes 19 = .ok (.ireturn, 1) := by decide +kernel
theorem dL_listedShare_0 : decode cL_listedShare 0 = .ok (.aload_n 1, 1) := by decide +kernel
theorem dL_listedShare_1 : decode cL_listedShare 1 = .ok (.iconst 0, 1) := by decide +kernel
theorem dL_listedShare_2 : decode cL_listedShare 2 = .ok (.aload_n 0, 1) := by decide +kernel
theorem dL_listedShare_3 : decode cL_listedShare 3 = .ok (.invokevirtual 164, 3) := by decide +kernel
theorem dL_listedShare_6 : decode cL_listedShare 6 = .ok (.f2d, 1) := by decide +kernel
theorem dL_listedShare_7 : decode cL_listedShare 7 = .ok (.dastore, 1) := by decide +kernel
theorem dL_listedShare_8 : decode cL_listedShare 8 = .ok (.goto 6, 3) := by decide +kernel
theorem dL_listedShare_11 : decode cL_listedShare 11 = .ok (.astore_n 2, 1) := by decide +kernel
theorem dL_listedShare_12 : decode cL_listedShare 12 = .ok (.iconst 1, 1) := by decide +kernel
theorem dL_listedShare_13 : decode cL_listedShare 13 = .ok (.ireturn, 1) := by decide +kernel
theorem dL_listedShare_14 : decode cL_listedShare 14 = .ok (.iconst 0, 1) := by decide +kernel
theorem dL_listedShare_15 : decode cL_listedShare 15 = .ok (.ireturn, 1) := by decide +kernel
theorem dL_meanLength_0 : decode cL_meanLength 0 = .ok (.aload_n 2, 1) := by decide +kernel
theorem dL_meanLength_1 : decode cL_meanLength 1 = .ok (.iconst 0, 1) := by decide +kernel
theorem dL_meanLength_2 : decode cL_meanLength 2 = .ok (.aload_n 0, 1) := by decide +kernel
theorem dL_meanLength_3 : decode cL_meanLength 3 = .ok (.iload_n 1, 1) := by decide +kernel
theorem dL_meanLength_4 : decode cL_meanLength 4 = .ok (.invokevirtual 168, 3) := by decide +kernel
theorem dL_meanLength_7 : decode cL_meanLength 7 = .ok (.dastore, 1) := by decide +kernel
theorem dL_meanLength_8 : decode cL_meanLength 8 = .ok (.goto 9, 3) := by decide +kernel
theorem dL_meanLength_11 : decode cL_meanLength 11 = .ok (.astore_n 3, 1) := by decide +kernel
theorem dL_meanLength_12 : decode cL_meanLength 12 = .ok (.iconst 1, 1) := by decide +kernel
theorem dL_meanLength_13 : decode cL_meanLength 13 = .ok (.ireturn, 1) := by decide +kernel
theorem dL_meanLength_14 : decode cL_meanLength 14 = .ok (.astore_n 3, 1) := by decide +kernel
theorem dL_meanLength_15 : decode cL_meanLength 15 = .ok (.iconst 2, 1) := by decide +kernel
theorem dL_meanLength_16 : decode cL_meanLength 16 = .ok (.ireturn, 1) := by decide +kernel
theorem dL_meanLength_17 : decode cL_meanLength 17 = .ok (.iconst 0, 1) := by decide +kernel
theorem dL_meanLength_18 : decode cL_meanLength 18 = .ok (.ireturn, 1) := by decide +kernel
