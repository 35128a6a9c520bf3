/-! ===== printed by wip/whole/gen.py: the methods as the walk reads them ===== -/
def jR_init : Nat := 1
def jJ_fill : Nat := 2
def jT_init : Nat := 3
def jH_init : Nat := 4
def jH_at : Nat := 5
def jR_copyFrom : Nat := 6
def jT_copyFrom : Nat := 7
def jH_keep : Nat := 8
def jH_takeBack : Nat := 9
def jH_clear : Nat := 10
def jP_init : Nat := 11
def jC_nodeOfPoint : Nat := 12
def jC_isNode : Nat := 13
def jT_stateOf : Nat := 14
def jC_numberOfPoint : Nat := 15
def jT_weightOf : Nat := 16
def jP_layRing : Nat := 17
def jC_capacityFor : Nat := 18
def jP_setCapacities : Nat := 19
def jC_placeOf : Nat := 20
def jC_placeOfShard : Nat := 21
def jP_pointCode : Nat := 22
def jC_placeOfPoint : Nat := 23
def jP_pointAfter : Nat := 24
def jP_setTarget : Nat := 25
def jP_derive : Nat := 26
def jP_capacityOf : Nat := 27
def jP_loadOf : Nat := 28
def jC_isShard : Nat := 29
def jP_targetOf : Nat := 30
def jP_skippedFor : Nat := 31
def jT_ownerOf : Nat := 32
def jP_misplacedShards : Nat := 33
def jP_differingTargets : Nat := 34
def jP_wantedFits : Nat := 35
def jP_leastSlackWithoutSkips : Nat := 36
def jR_has : Nat := 37
def jR_part : Nat := 38
def jR_putPart : Nat := 39
def jR_append : Nat := 40
def jR_remove : Nat := 41
def jR_firstWith : Nat := 42
def jR_countWith : Nat := 43
def jR_removeWith : Nat := 44
def jS_init : Nat := 45
def jS_isFull : Nat := 46
def jS_append : Nat := 47
def jS_empty : Nat := 48
def jS_current : Nat := 49
def jS_isCommandLetter : Nat := 50
def jS_readDigit : Nat := 51
def jS_readNumber : Nat := 52
def jS_accept : Nat := 53
def jS_addCommand : Nat := 54
def jS_readCommand : Nat := 55
def jS_parse : Nat := 56
def jT_time : Nat := 57
def jT_isPresent : Nat := 58
def jT_canDrain : Nat := 59
def jT_canFail : Nat := 60
def jT_canRecover : Nat := 61
def jT_lowestAbsent : Nat := 62
def jT_nodesInState : Nat := 63
def jJ_bitCount : Nat := 64
def jT_presentNodes : Nat := 65
def jT_putState : Nat := 66
def jT_putWeight : Nat := 67
def jT_enter : Nat := 68
def jC_isWeight : Nat := 69
def jT_tryToEnter : Nat := 70
def jT_leave : Nat := 71
def jT_leaseOf : Nat := 72
def jT_isServed : Nat := 73
def jT_ownedShards : Nat := 74
def jC_sizeOfShard : Nat := 75
def jT_ownedSizes : Nat := 76
def jT_unservedShards : Nat := 77
def jT_grant : Nat := 78
def jT_release : Nat := 79
def jT_note : Nat := 80
def jK_attendToLeases : Nat := 81
def jK_mustCancel : Nat := 82
def jK_cancelMove : Nat := 83
def jK_endMove : Nat := 84
def jK_advanceMoves : Nat := 85
def jK_isCandidate : Nat := 86
def jK_rankOf : Nat := 87
def jK_bestCandidate : Nat := 88
def jK_beginMoves : Nat := 89
def jK_dismissEmptyNodes : Nat := 90
def jK_makeTicks : Nat := 91
def jK_ticksUntilNoneIsMisplaced : Nat := 92
def jC_codeOfPoint : Nat := 93
def jC_allPointsInOrder : Nat := 94
def jC_init : Nat := 95
def jC_beginChange : Nat := 96
def jC_addNode : Nat := 97
def jC_drain : Nat := 98
def jC_fail : Nat := 99
def jC_recover : Nat := 100
def jC_setWeight : Nat := 101
def jC_currentPlacement : Nat := 102
def jC_node : Nat := 103
def jC_nodes : Nat := 104
def jC_isAllowed : Nat := 105
def jC_set : Nat := 106
def jC_points : Nat := 107
def jC_point : Nat := 108
def jC_successor : Nat := 109
def jC_shard : Nat := 110
def jC_route : Nat := 111
def jC_pending : Nat := 112
def jC_changedIf : Nat := 113
def jC_leastSlack : Nat := 114
def jC_isTickCount : Nat := 115
def jC_tick : Nat := 116
def jC_moves : Nat := 117
def jC_isPart : Nat := 118
def jC_move : Nat := 119
def jC_forecast : Nat := 120
def jC_statistic : Nat := 121
def jC_events : Nat := 122
def jC_event : Nat := 123
def jC_forget : Nat := 124
def jC_feed : Nat := 125
def jC_obey : Nat := 126
def jC_perform : Nat := 127
def jC_undo : Nat := 128
def jC_save : Nat := 129
def jC_restore : Nat := 130
def jM_placeOf : Nat := 131
def jM_init : Nat := 132
def jM_thrown : Nat := 133
def jM_in : Nat := 134
def jM_refuse : Nat := 135
def jM_isNode : Nat := 136
def jM_isThere : Nat := 137
def jM_is : Nat := 138
def jM_keepAs : Nat := 139
def jM_putAside : Nat := 140
def jM_takeBack : Nat := 141
def jM_freeNode : Nat := 142
def jM_adds : Nat := 143
def jM_drains : Nat := 144
def jM_fails : Nat := 145
def jM_recovers : Nat := 146
def jM_weighs : Nat := 147
def jM_putPoint : Nat := 148
def jM_layRing : Nat := 149
def jM_successorOf : Nat := 150
def jM_layTargets : Nat := 151
def jM_isServed : Nat := 152
def jM_tells : Nat := 153
def jM_leases : Nat := 154
def jM_of : Nat := 155
def jM_isLost : Nat := 156
def jM_endMove : Nat := 157
def jM_goOn : Nat := 158
def jM_moveOf : Nat := 159
def jM_comingTo : Nat := 160
def jM_rank : Nat := 161
def jM_begin : Nat := 162
def jM_owned : Nat := 163
def jM_tickOnce : Nat := 164
def jM_ticks : Nat := 165
def jM_done : Nat := 166
def jM_addNode : Nat := 167
def jM_drain : Nat := 168
def jM_fail : Nat := 169
def jM_recover : Nat := 170
def jM_setWeight : Nat := 171
def jM_set : Nat := 172
def jM_pendingNow : Nat := 173
def jM_tick : Nat := 174
def jM_node : Nat := 175
def jM_nodes : Nat := 176
def jM_points : Nat := 177
def jM_point : Nat := 178
def jM_successor : Nat := 179
def jM_shard : Nat := 180
def jM_route : Nat := 181
def jM_pending : Nat := 182
def jM_changedIf : Nat := 183
def jM_isSkipping : Nat := 184
def jM_leastSlack : Nat := 185
def jM_moves : Nat := 186
def jM_move : Nat := 187
def jM_forecast : Nat := 188
def jM_statistic : Nat := 189
def jM_events : Nat := 190
def jM_event : Nat := 191
def jM_forget : Nat := 192
def jM_feed : Nat := 193
def jM_here : Nat := 194
def jM_number : Nat := 195
def jM_take : Nat := 196
def jM_readCommand : Nat := 197
def jM_performs : Nat := 198
def jM_perform : Nat := 199
def jM_undo : Nat := 200
def jM_there : Nat := 201
def jM_save : Nat := 202
def jM_restore : Nat := 203
def kR_init_0 : zCd := zo 0 1 (.aload 0) :: zo 1 3 .monitorexit :: zo 4 1 (.aload 0) :: zk 5 1 (.iconst 0) 0 :: zz 6 3 (.putfield 0) 4 2 :: zo 9 1 (.aload 0) :: zo 10 1 (.iload 1) :: zk 11 1 (.iconst 0) 1 :: zo 12 3 .f2i :: zz 15 3 (.putfield 0) 4 0 :: zo 18 1 (.aload 0) :: zo 19 1 (.aload 0) :: zz 20 3 (.getfield 0) 4 0 :: zk 23 1 (.iconst 0) (nI 4) :: zo 24 1 .imul :: zx 25 2 (.newarray .int) 0 :: zz 27 3 (.putfield 1) 4 1 :: zo 30 1 .return_ :: []
def mR_init : zMe := (yX2_init, cX2_init, 2, none, 1, 40, kR_init_0)
def kJ_fill_20 : zCd := zo 20 1 .return_ :: []
def kJ_fill_5 : zCd := zo 5 1 (.iload 2) :: zo 6 1 (.iload 3) :: zx 7 3 (.if_icmp .ge 0) 20 :: zo 10 1 (.aload 0) :: zo 11 1 (.iload 2) :: zo 12 1 (.iload 1) :: zo 13 1 .iastore :: zk 14 3 (.iinc 2 0) 1 :: zx 17 3 (.goto 0) 5 :: kJ_fill_20
def kJ_fill_0 : zCd := zk 0 1 (.iconst 0) 0 :: zo 1 1 (.istore 2) :: zo 2 1 (.aload 0) :: zo 3 1 .arraylength :: zo 4 1 (.istore 3) :: kJ_fill_5
def mJ_fill : zMe := (yJ7_fill_53178, cJ7_fill_53178, 4, none, 0, 0, kJ_fill_0)
def kT_init_0 : zCd := zo 0 1 (.aload 0) :: zo 1 3 .monitorexit :: zo 4 1 (.aload 0) :: zk 5 2 (.iconst 0) (nI 8) :: zx 7 2 (.newarray .int) 0 :: zz 9 3 (.putfield 1) 6 0 :: zo 12 1 (.aload 0) :: zk 13 2 (.iconst 0) (nI 8) :: zx 15 2 (.newarray .int) 0 :: zz 17 3 (.putfield 1) 6 1 :: zo 20 1 (.aload 0) :: zk 21 2 (.iconst 0) (nI 32) :: zx 23 2 (.newarray .int) 0 :: zz 25 3 (.putfield 1) 6 2 :: zo 28 1 (.aload 0) :: zk 29 2 (.iconst 0) (nI 32) :: zx 31 2 (.newarray .int) 0 :: zz 33 3 (.putfield 1) 6 3 :: zo 36 1 (.aload 0) :: zk 37 1 (.iconst 0) (nI 3) :: zx 38 2 (.newarray .int) 0 :: zo 40 1 .dup :: zk 41 1 (.iconst 0) 0 :: zk 42 2 (.iconst 0) (nI 25) :: zo 44 1 .iastore :: zo 45 1 .dup :: zk 46 1 (.iconst 0) 1 :: zk 47 1 (.iconst 0) (nI 3) :: zo 48 1 .iastore :: zo 49 1 .dup :: zk 50 1 (.iconst 0) (nI 2) :: zk 51 1 (.iconst 0) (nI 5) :: zo 52 1 .iastore :: zz 53 3 (.putfield 1) 6 4 :: zo 56 1 (.aload 0) :: zk 57 2 (.iconst 0) (nI 7) :: zx 59 2 (.newarray .int) 0 :: zz 61 3 (.putfield 1) 6 5 :: zo 64 1 (.aload 0) :: zs 65 3 (.new 0) 4 [(0, 0), (0, 1), (0, 0)] :: zo 68 1 .dup :: zk 69 2 (.iconst 0) (nI 8) :: zz 71 3 (.invokespecial 0) jR_init 2 :: zz 74 3 (.putfield 1) 6 6 :: zo 77 1 (.aload 0) :: zs 78 3 (.new 0) 4 [(0, 0), (0, 1), (0, 0)] :: zo 81 1 .dup :: zk 82 2 (.iconst 0) (nI 30) :: zz 84 3 (.invokespecial 0) jR_init 2 :: zz 87 3 (.putfield 1) 6 7 :: zo 90 1 (.aload 0) :: zz 91 3 (.getfield 0) 6 2 :: zk 94 1 (.iconst 0) (-1) :: zz 95 3 (.invokestatic 0) jJ_fill 2 :: zo 98 1 (.aload 0) :: zz 99 3 (.getfield 0) 6 3 :: zk 102 1 (.iconst 0) (-1) :: zz 103 3 (.invokestatic 0) jJ_fill 2 :: zo 106 1 .return_ :: []
def mT_init : zMe := (yX4_init, cX4_init, 1, none, 2, 61, kT_init_0)
def kH_init_50 : zCd := zo 50 1 .return_ :: []
def kH_init_25 : zCd := zo 25 1 (.iload 1) :: zk 26 2 (.iconst 0) (nI 6) :: zx 28 3 (.if_icmp .ge 0) 50 :: zo 31 1 (.aload 0) :: zz 32 3 (.getfield 0) 2 0 :: zo 35 1 (.iload 1) :: zs 36 3 (.new 0) 6 [(0, 1), (0, 1), (0, 1), (0, 1), (0, 1), (0, 1), (0, 1), (0, 1)] :: zo 39 1 .dup :: zz 40 3 (.invokespecial 0) jT_init 1 :: zo 43 1 .aastore :: zk 44 3 (.iinc 1 0) 1 :: zx 47 3 (.goto 0) 25 :: kH_init_50
def kH_init_0 : zCd := zo 0 1 (.aload 0) :: zo 1 3 .monitorexit :: zo 4 1 (.aload 0) :: zk 5 2 (.iconst 0) (nI 6) :: zo 7 3 (.anewarray 0) :: zz 10 3 (.putfield 1) 2 0 :: zo 13 1 (.aload 0) :: zk 14 1 (.iconst 0) 0 :: zz 15 3 (.putfield 0) 2 1 :: zo 18 1 (.aload 0) :: zk 19 1 (.iconst 0) 0 :: zz 20 3 (.putfield 0) 2 2 :: zk 23 1 (.iconst 0) 0 :: zo 24 1 (.istore 1) :: kH_init_25
def mH_init : zMe := (yX0_init, cX0_init, 2, none, 3, 81, kH_init_0)
def kH_at_20 : zCd := zo 20 1 .areturn :: []
def kH_at_19 : zCd := zo 19 1 .aconst_null :: kH_at_20
def kH_at_0 : zCd := zo 0 1 (.iload 1) :: zx 1 3 (.ifCond .lt 0) 19 :: zo 4 1 (.iload 1) :: zk 5 2 (.iconst 0) (nI 6) :: zx 7 3 (.if_icmp .ge 0) 19 :: zo 10 1 (.aload 0) :: zz 11 3 (.getfield 0) 2 0 :: zo 14 1 (.iload 1) :: zo 15 1 .aaload :: zx 16 3 (.goto 0) 20 :: kH_at_19
def mH_at : zMe := (yX0_at, cX0_at, 2, (Option.some (Jvm.ClassFile.FieldType.object "ShardRebalancer$Store")), 0, 0, kH_at_0)
def kR_copyFrom_0 : zCd := zo 0 1 (.aload 0) :: zo 1 1 (.aload 1) :: zz 2 3 (.getfield 0) 4 2 :: zo 5 1 (.aload 0) :: zz 6 3 (.getfield 0) 4 0 :: zo 9 3 .d2i :: zz 12 3 (.putfield 0) 4 2 :: zo 15 1 (.aload 1) :: zz 16 3 (.getfield 0) 4 1 :: zk 19 1 (.iconst 0) 0 :: zo 20 1 (.aload 0) :: zz 21 3 (.getfield 0) 4 1 :: zk 24 1 (.iconst 0) 0 :: zo 25 1 (.aload 0) :: zz 26 3 (.getfield 0) 4 2 :: zk 29 1 (.iconst 0) (nI 4) :: zo 30 1 .imul :: zo 31 3 (.invokedynamic 0) :: zo 34 1 .return_ :: []
def mR_copyFrom : zMe := (yX2_copyFrom, cX2_copyFrom, 2, none, 1, 40, kR_copyFrom_0)
def kT_copyFrom_0 : zCd := zo 0 1 (.aload 1) :: zz 1 3 (.getfield 0) 6 0 :: zk 4 1 (.iconst 0) 0 :: zo 5 1 (.aload 0) :: zz 6 3 (.getfield 0) 6 0 :: zk 9 1 (.iconst 0) 0 :: zk 10 2 (.iconst 0) (nI 8) :: zo 12 3 (.invokedynamic 0) :: zo 15 1 (.aload 1) :: zz 16 3 (.getfield 0) 6 1 :: zk 19 1 (.iconst 0) 0 :: zo 20 1 (.aload 0) :: zz 21 3 (.getfield 0) 6 1 :: zk 24 1 (.iconst 0) 0 :: zk 25 2 (.iconst 0) (nI 8) :: zo 27 3 (.invokedynamic 0) :: zo 30 1 (.aload 1) :: zz 31 3 (.getfield 0) 6 2 :: zk 34 1 (.iconst 0) 0 :: zo 35 1 (.aload 0) :: zz 36 3 (.getfield 0) 6 2 :: zk 39 1 (.iconst 0) 0 :: zk 40 2 (.iconst 0) (nI 32) :: zo 42 3 (.invokedynamic 0) :: zo 45 1 (.aload 1) :: zz 46 3 (.getfield 0) 6 3 :: zk 49 1 (.iconst 0) 0 :: zo 50 1 (.aload 0) :: zz 51 3 (.getfield 0) 6 3 :: zk 54 1 (.iconst 0) 0 :: zk 55 2 (.iconst 0) (nI 32) :: zo 57 3 (.invokedynamic 0) :: zo 60 1 (.aload 1) :: zz 61 3 (.getfield 0) 6 4 :: zk 64 1 (.iconst 0) 0 :: zo 65 1 (.aload 0) :: zz 66 3 (.getfield 0) 6 4 :: zk 69 1 (.iconst 0) 0 :: zk 70 1 (.iconst 0) (nI 3) :: zo 71 3 (.invokedynamic 0) :: zo 74 1 (.aload 1) :: zz 75 3 (.getfield 0) 6 5 :: zk 78 1 (.iconst 0) 0 :: zo 79 1 (.aload 0) :: zz 80 3 (.getfield 0) 6 5 :: zk 83 1 (.iconst 0) 0 :: zk 84 2 (.iconst 0) (nI 7) :: zo 86 3 (.invokedynamic 0) :: zo 89 1 (.aload 0) :: zz 90 3 (.getfield 0) 6 6 :: zo 93 1 (.aload 1) :: zz 94 3 (.getfield 0) 6 6 :: zz 97 3 (.invokevirtual 4) jR_copyFrom 2 :: zo 100 1 (.aload 0) :: zz 101 3 (.getfield 0) 6 7 :: zo 104 1 (.aload 1) :: zz 105 3 (.getfield 0) 6 7 :: zz 108 3 (.invokevirtual 4) jR_copyFrom 2 :: zo 111 1 .return_ :: []
def mT_copyFrom : zMe := (yX4_copyFrom, cX4_copyFrom, 2, none, 2, 61, kT_copyFrom_0)
def kH_keep_67 : zCd := zo 67 1 .return_ :: []
def kH_keep_64 : zCd := zz 64 3 (.putfield 0) 2 2 :: kH_keep_67
def kH_keep_62 : zCd := zk 62 2 (.iconst 0) (nI 6) :: kH_keep_64
def kH_keep_40 : zCd := zz 40 3 (.putfield 0) 2 1 :: zo 43 1 (.aload 0) :: zo 44 1 (.aload 0) :: zz 45 3 (.getfield 0) 2 2 :: zk 48 2 (.iconst 0) (nI 6) :: zx 50 3 (.if_icmp .ge 0) 62 :: zo 53 1 (.aload 0) :: zz 54 3 (.getfield 0) 2 2 :: zk 57 1 (.iconst 0) 1 :: zo 58 1 .iadd :: zx 59 3 (.goto 0) 64 :: kH_keep_62
def kH_keep_39 : zCd := zk 39 1 (.iconst 0) 0 :: kH_keep_40
def kH_keep_0 : zCd := zo 0 1 (.aload 0) :: zo 1 1 (.aload 0) :: zz 2 3 (.getfield 0) 2 1 :: zz 5 3 (.invokevirtual 2) jH_at 2 :: zo 8 1 (.astore 2) :: zo 9 1 (.aload 2) :: zx 10 3 (.ifnull 0) 67 :: zo 13 1 (.aload 2) :: zo 14 1 (.aload 1) :: zz 15 3 (.invokevirtual 6) jT_copyFrom 2 :: zo 18 1 (.aload 0) :: zo 19 1 (.aload 0) :: zz 20 3 (.getfield 0) 2 1 :: zk 23 1 (.iconst 0) 1 :: zo 24 1 .iadd :: zk 25 2 (.iconst 0) (nI 6) :: zx 27 3 (.if_icmp .ge 0) 39 :: zo 30 1 (.aload 0) :: zz 31 3 (.getfield 0) 2 1 :: zk 34 1 (.iconst 0) 1 :: zo 35 1 .iadd :: zx 36 3 (.goto 0) 40 :: kH_keep_39
def mH_keep : zMe := (yX0_keep, cX0_keep, 3, none, 3, 82, kH_keep_0)
def kH_takeBack_55 : zCd := zo 55 1 .return_ :: []
def kH_takeBack_17 : zCd := zo 17 1 (.istore 2) :: zo 18 1 (.aload 0) :: zo 19 1 (.iload 2) :: zz 20 3 (.invokevirtual 2) jH_at 2 :: zo 23 1 (.astore 3) :: zo 24 1 (.aload 0) :: zz 25 3 (.getfield 0) 2 2 :: zx 28 3 (.ifCond .le 0) 55 :: zo 31 1 (.aload 3) :: zx 32 3 (.ifnull 0) 55 :: zo 35 1 (.aload 1) :: zo 36 1 (.aload 3) :: zz 37 3 (.invokevirtual 6) jT_copyFrom 2 :: zo 40 1 (.aload 0) :: zo 41 1 (.iload 2) :: zz 42 3 (.putfield 0) 2 1 :: zo 45 1 (.aload 0) :: zo 46 1 .dup :: zz 47 3 (.getfield 0) 2 2 :: zk 50 1 (.iconst 0) 1 :: zo 51 1 .isub :: zz 52 3 (.putfield 0) 2 2 :: kH_takeBack_55
def kH_takeBack_16 : zCd := zk 16 1 (.iconst 0) (nI 5) :: kH_takeBack_17
def kH_takeBack_0 : zCd := zo 0 1 (.aload 0) :: zz 1 3 (.getfield 0) 2 1 :: zx 4 3 (.ifCond .le 0) 16 :: zo 7 1 (.aload 0) :: zz 8 3 (.getfield 0) 2 1 :: zk 11 1 (.iconst 0) 1 :: zo 12 1 .isub :: zx 13 3 (.goto 0) 17 :: kH_takeBack_16
def mH_takeBack : zMe := (yX0_takeBack, cX0_takeBack, 4, none, 3, 82, kH_takeBack_0)
def kH_clear_0 : zCd := zo 0 1 (.aload 0) :: zk 1 1 (.iconst 0) 0 :: zz 2 3 (.putfield 0) 2 2 :: zo 5 1 .return_ :: []
def mH_clear : zMe := (yX0_clear, cX0_clear, 1, none, 0, 0, kH_clear_0)
def kP_init_0 : zCd := zo 0 1 (.aload 0) :: zo 1 3 .monitorexit :: zo 4 1 (.aload 0) :: zk 5 3 (.iconst 0) (nI 160) :: zx 8 2 (.newarray .int) 0 :: zz 10 3 (.putfield 1) 3 1 :: zo 13 1 (.aload 0) :: zk 14 2 (.iconst 0) (nI 8) :: zx 16 2 (.newarray .int) 0 :: zz 18 3 (.putfield 1) 3 2 :: zo 21 1 (.aload 0) :: zk 22 2 (.iconst 0) (nI 8) :: zx 24 2 (.newarray .int) 0 :: zz 26 3 (.putfield 1) 3 3 :: zo 29 1 (.aload 0) :: zk 30 2 (.iconst 0) (nI 8) :: zx 32 2 (.newarray .int) 0 :: zz 34 3 (.putfield 1) 3 4 :: zo 37 1 (.aload 0) :: zk 38 2 (.iconst 0) (nI 32) :: zx 40 2 (.newarray .int) 0 :: zz 42 3 (.putfield 1) 3 5 :: zo 45 1 (.aload 0) :: zk 46 2 (.iconst 0) (nI 32) :: zx 48 2 (.newarray .int) 0 :: zz 50 3 (.putfield 1) 3 6 :: zo 53 1 (.aload 0) :: zk 54 1 (.iconst 0) 0 :: zz 55 3 (.putfield 0) 3 7 :: zo 58 1 (.aload 0) :: zk 59 1 (.iconst 0) 0 :: zz 60 3 (.putfield 0) 3 8 :: zo 63 1 (.aload 0) :: zo 64 1 (.aload 1) :: zz 65 3 (.putfield 1) 3 0 :: zo 68 1 .return_ :: []
def mP_init : zMe := (yX1_init, cX1_init, 2, none, 1, 40, kP_init_0)
def kC_nodeOfPoint_0 : zCd := zo 0 1 (.iload 0) :: zk 1 1 (.iconst 0) (nI 5) :: zo 2 1 .ishr :: zk 3 2 (.iconst 0) (nI 7) :: zo 5 1 .iand :: zx 6 1 .ireturn 0 :: []
def mC_nodeOfPoint : zMe := (yX6_nodeOfPoint, cX6_nodeOfPoint, 1, (Option.some Jvm.ClassFile.FieldType.int), 0, 0, kC_nodeOfPoint_0)
def kC_isNode_15 : zCd := zx 15 1 .ireturn 1 :: []
def kC_isNode_14 : zCd := zk 14 1 (.iconst 0) 0 :: kC_isNode_15
def kC_isNode_0 : zCd := zo 0 1 (.iload 0) :: zx 1 3 (.ifCond .lt 0) 14 :: zo 4 1 (.iload 0) :: zk 5 2 (.iconst 0) (nI 8) :: zx 7 3 (.if_icmp .ge 0) 14 :: zk 10 1 (.iconst 0) 1 :: zx 11 3 (.goto 0) 15 :: kC_isNode_14
def mC_isNode : zMe := (yX6_isNode, cX6_isNode, 1, (Option.some Jvm.ClassFile.FieldType.boolean), 0, 0, kC_isNode_0)
def kT_stateOf_17 : zCd := zx 17 1 .ireturn 0 :: []
def kT_stateOf_16 : zCd := zk 16 1 (.iconst 0) 0 :: kT_stateOf_17
def kT_stateOf_0 : zCd := zo 0 1 (.iload 1) :: zz 1 3 (.invokestatic 0) jC_isNode 1 :: zx 4 3 (.ifCond .eq 0) 16 :: zo 7 1 (.aload 0) :: zz 8 3 (.getfield 0) 6 0 :: zo 11 1 (.iload 1) :: zo 12 1 .iaload :: zx 13 3 (.goto 0) 17 :: kT_stateOf_16
def mT_stateOf : zMe := (yX4_stateOf, cX4_stateOf, 2, (Option.some Jvm.ClassFile.FieldType.int), 1, 20, kT_stateOf_0)
def kC_numberOfPoint_0 : zCd := zo 0 1 (.iload 0) :: zk 1 2 (.iconst 0) (nI 31) :: zo 3 1 .iand :: zx 4 1 .ireturn 0 :: []
def mC_numberOfPoint : zMe := (yX6_numberOfPoint, cX6_numberOfPoint, 1, (Option.some Jvm.ClassFile.FieldType.int), 0, 0, kC_numberOfPoint_0)
def kT_weightOf_17 : zCd := zx 17 1 .ireturn 0 :: []
def kT_weightOf_16 : zCd := zk 16 1 (.iconst 0) 0 :: kT_weightOf_17
def kT_weightOf_0 : zCd := zo 0 1 (.iload 1) :: zz 1 3 (.invokestatic 0) jC_isNode 1 :: zx 4 3 (.ifCond .eq 0) 16 :: zo 7 1 (.aload 0) :: zz 8 3 (.getfield 0) 6 1 :: zo 11 1 (.iload 1) :: zo 12 1 .iaload :: zx 13 3 (.goto 0) 17 :: kT_weightOf_16
def mT_weightOf : zMe := (yX4_weightOf, cX4_weightOf, 2, (Option.some Jvm.ClassFile.FieldType.int), 1, 20, kT_weightOf_0)
def kP_layRing_97 : zCd := zo 97 1 .return_ :: []
def kP_layRing_91 : zCd := zk 91 3 (.iinc 2 0) 1 :: zx 94 3 (.goto 0) 7 :: kP_layRing_97
def kP_layRing_7 : zCd := zo 7 1 (.iload 2) :: zk 8 3 (.iconst 0) (nI 160) :: zx 11 3 (.if_icmp .ge 0) 97 :: zo 14 1 (.iload 2) :: zo 15 1 (.aload 0) :: zz 16 3 (.getfield 0) 3 0 :: zo 19 1 .arraylength :: zx 20 3 (.if_icmp .ge 0) 97 :: zo 23 1 (.aload 0) :: zz 24 3 (.getfield 0) 3 0 :: zo 27 1 (.iload 2) :: zo 28 1 .iaload :: zo 29 1 (.istore 3) :: zo 30 1 (.iload 3) :: zz 31 3 (.invokestatic 0) jC_nodeOfPoint 1 :: zo 34 2 (.istore 4) :: zo 36 1 (.aload 0) :: zz 37 3 (.getfield 0) 3 8 :: zk 40 3 (.iconst 0) (nI 160) :: zx 43 3 (.if_icmp .ge 0) 91 :: zo 46 1 (.aload 1) :: zo 47 2 (.iload 4) :: zz 49 3 (.invokevirtual 6) jT_stateOf 2 :: zk 52 1 (.iconst 0) 1 :: zx 53 3 (.if_icmp .ne 0) 91 :: zo 56 1 (.iload 3) :: zz 57 3 (.invokestatic 0) jC_numberOfPoint 1 :: zk 60 1 (.iconst 0) (nI 4) :: zo 61 1 (.aload 1) :: zo 62 2 (.iload 4) :: zz 64 3 (.invokevirtual 6) jT_weightOf 2 :: zo 67 1 .imul :: zx 68 3 (.if_icmp .ge 0) 91 :: zo 71 1 (.aload 0) :: zz 72 3 (.getfield 0) 3 1 :: zo 75 1 (.aload 0) :: zz 76 3 (.getfield 0) 3 8 :: zo 79 1 (.iload 3) :: zo 80 1 .iastore :: zo 81 1 (.aload 0) :: zo 82 1 .dup :: zz 83 3 (.getfield 0) 3 8 :: zk 86 1 (.iconst 0) 1 :: zo 87 1 .iadd :: zz 88 3 (.putfield 0) 3 8 :: kP_layRing_91
def kP_layRing_0 : zCd := zo 0 1 (.aload 0) :: zk 1 1 (.iconst 0) 0 :: zz 2 3 (.putfield 0) 3 8 :: zk 5 1 (.iconst 0) 0 :: zo 6 1 (.istore 2) :: kP_layRing_7
def mP_layRing : zMe := (yX1_layRing, cX1_layRing, 5, none, 2, 41, kP_layRing_0)
def kC_capacityFor_11 : zCd := zk 11 1 (.iconst 0) 1 :: zk 12 2 (.iconst 0) (nI 32) :: zo 14 1 (.iload 0) :: zo 15 1 .imul :: zk 16 2 (.iconst 0) (nI 100) :: zo 18 1 (.iload 1) :: zo 19 1 .iadd :: zo 20 1 .imul :: zo 21 1 (.iload 3) :: zo 22 1 .idiv :: zo 23 1 .iadd :: zx 24 1 .ireturn 0 :: []
def kC_capacityFor_0 : zCd := zk 0 2 (.iconst 0) (nI 100) :: zo 2 1 (.iload 2) :: zo 3 1 .imul :: zo 4 1 (.istore 3) :: zo 5 1 (.iload 3) :: zx 6 3 (.ifCond .gt 0) 11 :: zk 9 1 (.iconst 0) 0 :: zx 10 1 .ireturn 0 :: kC_capacityFor_11
def mC_capacityFor : zMe := (yX6_capacityFor, cX6_capacityFor, 4, (Option.some Jvm.ClassFile.FieldType.int), 0, 0, kC_capacityFor_0)
def kP_setCapacities_61 : zCd := zo 61 1 .return_ :: []
def kP_setCapacities_54 : zCd := zo 54 1 .iastore :: zk 55 3 (.iinc 2 0) 1 :: zx 58 3 (.goto 0) 12 :: kP_setCapacities_61
def kP_setCapacities_53 : zCd := zk 53 1 (.iconst 0) 0 :: kP_setCapacities_54
def kP_setCapacities_12 : zCd := zo 12 1 (.iload 2) :: zk 13 2 (.iconst 0) (nI 8) :: zx 15 3 (.if_icmp .ge 0) 61 :: zo 18 1 (.aload 0) :: zz 19 3 (.getfield 0) 3 2 :: zo 22 1 (.iload 2) :: zo 23 1 (.aload 1) :: zo 24 1 (.iload 2) :: zz 25 3 (.invokevirtual 6) jT_stateOf 2 :: zk 28 1 (.iconst 0) 1 :: zx 29 3 (.if_icmp .ne 0) 53 :: zo 32 1 (.aload 1) :: zo 33 1 (.iload 2) :: zz 34 3 (.invokevirtual 6) jT_weightOf 2 :: zo 37 1 (.aload 1) :: zz 38 3 (.getfield 0) 6 4 :: zk 41 1 (.iconst 0) 0 :: zo 42 1 .iaload :: zo 43 1 (.aload 0) :: zz 44 3 (.getfield 0) 3 7 :: zz 47 3 (.invokestatic 0) jC_capacityFor 3 :: zx 50 3 (.goto 0) 54 :: kP_setCapacities_53
def kP_setCapacities_0 : zCd := zo 0 1 (.aload 0) :: zo 1 1 (.aload 0) :: zz 2 3 (.getfield 0) 3 8 :: zk 5 1 (.iconst 0) (nI 4) :: zo 6 1 .idiv :: zz 7 3 (.putfield 0) 3 7 :: zk 10 1 (.iconst 0) 0 :: zo 11 1 (.istore 2) :: kP_setCapacities_12
def mP_setCapacities : zMe := (yX1_setCapacities, cX1_setCapacities, 3, none, 2, 41, kP_setCapacities_0)
def kC_placeOf_0 : zCd := zo 0 1 (.iload 0) :: zk 1 3 (.iconst 0) (-1640531527) :: zo 4 1 .imul :: zo 5 1 (.istore 1) :: zo 6 1 (.iload 1) :: zo 7 1 (.iload 1) :: zk 8 2 (.iconst 0) (nI 15) :: zo 10 1 .iushr :: zo 11 1 .ixor :: zo 12 1 (.istore 1) :: zo 13 1 (.iload 1) :: zk 14 3 (.iconst 0) (-2048144789) :: zo 17 1 .imul :: zo 18 1 (.istore 1) :: zo 19 1 (.iload 1) :: zo 20 1 (.iload 1) :: zk 21 2 (.iconst 0) (nI 13) :: zo 23 1 .iushr :: zo 24 1 .ixor :: zo 25 1 (.istore 1) :: zo 26 1 (.iload 1) :: zk 27 3 (.iconst 0) (nI 1023) :: zo 30 1 .iand :: zx 31 1 .ireturn 0 :: []
def mC_placeOf : zMe := (yX6_placeOf, cX6_placeOf, 2, (Option.some Jvm.ClassFile.FieldType.int), 0, 0, kC_placeOf_0)
def kC_placeOfShard_0 : zCd := zk 0 3 (.iconst 0) (nI 1000) :: zo 3 1 (.iload 0) :: zo 4 1 .iadd :: zz 5 3 (.invokestatic 0) jC_placeOf 1 :: zx 8 1 .ireturn 0 :: []
def mC_placeOfShard : zMe := (yX6_placeOfShard, cX6_placeOfShard, 1, (Option.some Jvm.ClassFile.FieldType.int), 1, 21, kC_placeOfShard_0)
def kP_pointCode_22 : zCd := zx 22 1 .ireturn 0 :: []
def kP_pointCode_21 : zCd := zk 21 1 (.iconst 0) 0 :: kP_pointCode_22
def kP_pointCode_0 : zCd := zo 0 1 (.iload 1) :: zx 1 3 (.ifCond .lt 0) 21 :: zo 4 1 (.iload 1) :: zo 5 1 (.aload 0) :: zz 6 3 (.getfield 0) 3 8 :: zx 9 3 (.if_icmp .ge 0) 21 :: zo 12 1 (.aload 0) :: zz 13 3 (.getfield 0) 3 1 :: zo 16 1 (.iload 1) :: zo 17 1 .iaload :: zx 18 3 (.goto 0) 22 :: kP_pointCode_21
def mP_pointCode : zMe := (yX1_pointCode, cX1_pointCode, 2, (Option.some Jvm.ClassFile.FieldType.int), 0, 0, kP_pointCode_0)
def kC_placeOfPoint_0 : zCd := zo 0 1 (.iload 0) :: zk 1 2 (.iconst 0) (nI 8) :: zo 3 1 .ishr :: zx 4 1 .ireturn 0 :: []
def mC_placeOfPoint : zMe := (yX6_placeOfPoint, cX6_placeOfPoint, 1, (Option.some Jvm.ClassFile.FieldType.int), 0, 0, kC_placeOfPoint_0)
def kP_pointAfter_62 : zCd := zx 62 1 .ireturn 0 :: []
def kP_pointAfter_61 : zCd := zk 61 1 (.iconst 0) 0 :: kP_pointAfter_62
def kP_pointAfter_49 : zCd := zo 49 1 (.iload 2) :: zo 50 1 (.aload 0) :: zz 51 3 (.getfield 0) 3 8 :: zx 54 3 (.if_icmp .ge 0) 61 :: zo 57 1 (.iload 2) :: zx 58 3 (.goto 0) 62 :: kP_pointAfter_61
def kP_pointAfter_42 : zCd := zo 42 1 (.iload 3) :: zk 43 1 (.iconst 0) (nI 2) :: zo 44 1 .idiv :: zo 45 1 (.istore 3) :: zx 46 3 (.goto 0) 6 :: kP_pointAfter_49
def kP_pointAfter_6 : zCd := zo 6 1 (.iload 3) :: zx 7 3 (.ifCond .le 0) 49 :: zo 10 1 (.iload 2) :: zo 11 1 (.iload 3) :: zo 12 1 .iadd :: zo 13 2 (.istore 4) :: zo 15 2 (.iload 4) :: zo 17 1 (.aload 0) :: zz 18 3 (.getfield 0) 3 8 :: zx 21 3 (.if_icmp .gt 0) 42 :: zo 24 1 (.aload 0) :: zo 25 2 (.iload 4) :: zk 27 1 (.iconst 0) 1 :: zo 28 1 .isub :: zz 29 3 (.invokevirtual 3) jP_pointCode 2 :: zz 32 3 (.invokestatic 0) jC_placeOfPoint 1 :: zo 35 1 (.iload 1) :: zx 36 3 (.if_icmp .ge 0) 42 :: zo 39 2 (.iload 4) :: zo 41 1 (.istore 2) :: kP_pointAfter_42
def kP_pointAfter_0 : zCd := zk 0 1 (.iconst 0) 0 :: zo 1 1 (.istore 2) :: zk 2 3 (.iconst 0) (nI 128) :: zo 5 1 (.istore 3) :: kP_pointAfter_6
def mP_pointAfter : zMe := (yX1_pointAfter, cX1_pointAfter, 5, (Option.some Jvm.ClassFile.FieldType.int), 1, 21, kP_pointAfter_0)
def kP_setTarget_110 : zCd := zo 110 1 (.aload 0) :: zz 111 3 (.getfield 0) 3 5 :: zo 114 1 (.iload 1) :: zo 115 1 (.iload 2) :: zo 116 1 .iastore :: zo 117 1 (.aload 0) :: zz 118 3 (.getfield 0) 3 6 :: zo 121 1 (.iload 1) :: zo 122 1 (.iload 3) :: zo 123 1 .iastore :: zo 124 1 .return_ :: []
def kP_setTarget_102 : zCd := zo 102 2 (.istore 4) :: zk 104 3 (.iinc 5 0) 1 :: zx 107 3 (.goto 0) 17 :: kP_setTarget_110
def kP_setTarget_101 : zCd := zk 101 1 (.iconst 0) 0 :: kP_setTarget_102
def kP_setTarget_83 : zCd := zo 83 2 (.iload 4) :: zk 85 1 (.iconst 0) 1 :: zo 86 1 .iadd :: zo 87 1 (.aload 0) :: zz 88 3 (.getfield 0) 3 8 :: zx 91 3 (.if_icmp .ge 0) 101 :: zo 94 2 (.iload 4) :: zk 96 1 (.iconst 0) 1 :: zo 97 1 .iadd :: zx 98 3 (.goto 0) 102 :: kP_setTarget_101
def kP_setTarget_76 : zCd := zo 76 1 (.iload 3) :: zk 77 1 (.iconst 0) 1 :: zo 78 2 (.iload 6) :: zo 80 1 .ishl :: zo 81 1 .ior :: zo 82 1 (.istore 3) :: kP_setTarget_83
def kP_setTarget_17 : zCd := zo 17 2 (.iload 5) :: zo 19 1 (.aload 0) :: zz 20 3 (.getfield 0) 3 8 :: zx 23 3 (.if_icmp .ge 0) 110 :: zo 26 1 (.iload 2) :: zk 27 1 (.iconst 0) (-1) :: zx 28 3 (.if_icmp .ne 0) 110 :: zo 31 1 (.aload 0) :: zo 32 2 (.iload 4) :: zz 34 3 (.invokevirtual 3) jP_pointCode 2 :: zz 37 3 (.invokestatic 0) jC_nodeOfPoint 1 :: zo 40 2 (.istore 6) :: zo 42 1 (.aload 0) :: zz 43 3 (.getfield 0) 3 3 :: zo 46 2 (.iload 6) :: zo 48 1 .iaload :: zo 49 1 (.aload 0) :: zz 50 3 (.getfield 0) 3 2 :: zo 53 2 (.iload 6) :: zo 55 1 .iaload :: zx 56 3 (.if_icmp .ge 0) 76 :: zo 59 2 (.iload 6) :: zo 61 1 (.istore 2) :: zo 62 1 (.aload 0) :: zz 63 3 (.getfield 0) 3 3 :: zo 66 2 (.iload 6) :: zo 68 1 .dup2 :: zo 69 1 .iaload :: zk 70 1 (.iconst 0) 1 :: zo 71 1 .iadd :: zo 72 1 .iastore :: zx 73 3 (.goto 0) 83 :: kP_setTarget_76
def kP_setTarget_0 : zCd := zk 0 1 (.iconst 0) (-1) :: zo 1 1 (.istore 2) :: zk 2 1 (.iconst 0) 0 :: zo 3 1 (.istore 3) :: zo 4 1 (.aload 0) :: zo 5 1 (.iload 1) :: zz 6 3 (.invokestatic 0) jC_placeOfShard 1 :: zz 9 3 (.invokevirtual 3) jP_pointAfter 2 :: zo 12 2 (.istore 4) :: zk 14 1 (.iconst 0) 0 :: zo 15 2 (.istore 5) :: kP_setTarget_17
def mP_setTarget : zMe := (yX1_setTarget, cX1_setTarget, 7, none, 2, 45, kP_setTarget_0)
def kP_derive_37 : zCd := zo 37 1 .return_ :: []
def kP_derive_20 : zCd := zo 20 1 (.iload 2) :: zk 21 2 (.iconst 0) (nI 32) :: zx 23 3 (.if_icmp .ge 0) 37 :: zo 26 1 (.aload 0) :: zo 27 1 (.iload 2) :: zz 28 3 (.invokevirtual 3) jP_setTarget 2 :: zk 31 3 (.iinc 2 0) 1 :: zx 34 3 (.goto 0) 20 :: kP_derive_37
def kP_derive_0 : zCd := zo 0 1 (.aload 0) :: zo 1 1 (.aload 1) :: zz 2 3 (.invokevirtual 3) jP_layRing 2 :: zo 5 1 (.aload 0) :: zo 6 1 (.aload 1) :: zz 7 3 (.invokevirtual 3) jP_setCapacities 2 :: zo 10 1 (.aload 0) :: zz 11 3 (.getfield 0) 3 3 :: zk 14 1 (.iconst 0) 0 :: zz 15 3 (.invokestatic 0) jJ_fill 2 :: zk 18 1 (.iconst 0) 0 :: zo 19 1 (.istore 2) :: kP_derive_20
def mP_derive : zMe := (yX1_derive, cX1_derive, 3, none, 3, 71, kP_derive_0)
def kP_capacityOf_17 : zCd := zx 17 1 .ireturn 0 :: []
def kP_capacityOf_16 : zCd := zk 16 1 (.iconst 0) 0 :: kP_capacityOf_17
def kP_capacityOf_0 : zCd := zo 0 1 (.iload 1) :: zz 1 3 (.invokestatic 0) jC_isNode 1 :: zx 4 3 (.ifCond .eq 0) 16 :: zo 7 1 (.aload 0) :: zz 8 3 (.getfield 0) 3 2 :: zo 11 1 (.iload 1) :: zo 12 1 .iaload :: zx 13 3 (.goto 0) 17 :: kP_capacityOf_16
def mP_capacityOf : zMe := (yX1_capacityOf, cX1_capacityOf, 2, (Option.some Jvm.ClassFile.FieldType.int), 1, 20, kP_capacityOf_0)
def kP_loadOf_17 : zCd := zx 17 1 .ireturn 0 :: []
def kP_loadOf_16 : zCd := zk 16 1 (.iconst 0) 0 :: kP_loadOf_17
def kP_loadOf_0 : zCd := zo 0 1 (.iload 1) :: zz 1 3 (.invokestatic 0) jC_isNode 1 :: zx 4 3 (.ifCond .eq 0) 16 :: zo 7 1 (.aload 0) :: zz 8 3 (.getfield 0) 3 3 :: zo 11 1 (.iload 1) :: zo 12 1 .iaload :: zx 13 3 (.goto 0) 17 :: kP_loadOf_16
def mP_loadOf : zMe := (yX1_loadOf, cX1_loadOf, 2, (Option.some Jvm.ClassFile.FieldType.int), 1, 20, kP_loadOf_0)
def kC_isShard_15 : zCd := zx 15 1 .ireturn 1 :: []
def kC_isShard_14 : zCd := zk 14 1 (.iconst 0) 0 :: kC_isShard_15
def kC_isShard_0 : zCd := zo 0 1 (.iload 0) :: zx 1 3 (.ifCond .lt 0) 14 :: zo 4 1 (.iload 0) :: zk 5 2 (.iconst 0) (nI 32) :: zx 7 3 (.if_icmp .ge 0) 14 :: zk 10 1 (.iconst 0) 1 :: zx 11 3 (.goto 0) 15 :: kC_isShard_14
def mC_isShard : zMe := (yX6_isShard, cX6_isShard, 1, (Option.some Jvm.ClassFile.FieldType.boolean), 0, 0, kC_isShard_0)
def kP_targetOf_17 : zCd := zx 17 1 .ireturn 0 :: []
def kP_targetOf_16 : zCd := zk 16 1 (.iconst 0) (-1) :: kP_targetOf_17
def kP_targetOf_0 : zCd := zo 0 1 (.iload 1) :: zz 1 3 (.invokestatic 0) jC_isShard 1 :: zx 4 3 (.ifCond .eq 0) 16 :: zo 7 1 (.aload 0) :: zz 8 3 (.getfield 0) 3 5 :: zo 11 1 (.iload 1) :: zo 12 1 .iaload :: zx 13 3 (.goto 0) 17 :: kP_targetOf_16
def mP_targetOf : zMe := (yX1_targetOf, cX1_targetOf, 2, (Option.some Jvm.ClassFile.FieldType.int), 1, 20, kP_targetOf_0)
def kP_skippedFor_17 : zCd := zx 17 1 .ireturn 0 :: []
def kP_skippedFor_16 : zCd := zk 16 1 (.iconst 0) 0 :: kP_skippedFor_17
def kP_skippedFor_0 : zCd := zo 0 1 (.iload 1) :: zz 1 3 (.invokestatic 0) jC_isShard 1 :: zx 4 3 (.ifCond .eq 0) 16 :: zo 7 1 (.aload 0) :: zz 8 3 (.getfield 0) 3 6 :: zo 11 1 (.iload 1) :: zo 12 1 .iaload :: zx 13 3 (.goto 0) 17 :: kP_skippedFor_16
def mP_skippedFor : zMe := (yX1_skippedFor, cX1_skippedFor, 2, (Option.some Jvm.ClassFile.FieldType.int), 1, 20, kP_skippedFor_0)
def kT_ownerOf_17 : zCd := zx 17 1 .ireturn 0 :: []
def kT_ownerOf_16 : zCd := zk 16 1 (.iconst 0) (-1) :: kT_ownerOf_17
def kT_ownerOf_0 : zCd := zo 0 1 (.iload 1) :: zz 1 3 (.invokestatic 0) jC_isShard 1 :: zx 4 3 (.ifCond .eq 0) 16 :: zo 7 1 (.aload 0) :: zz 8 3 (.getfield 0) 6 2 :: zo 11 1 (.iload 1) :: zo 12 1 .iaload :: zx 13 3 (.goto 0) 17 :: kT_ownerOf_16
def mT_ownerOf : zMe := (yX4_ownerOf, cX4_ownerOf, 2, (Option.some Jvm.ClassFile.FieldType.int), 1, 20, kT_ownerOf_0)
def kP_misplacedShards_43 : zCd := zo 43 1 (.iload 2) :: zx 44 1 .ireturn 0 :: []
def kP_misplacedShards_37 : zCd := zk 37 3 (.iinc 3 0) 1 :: zx 40 3 (.goto 0) 4 :: kP_misplacedShards_43
def kP_misplacedShards_34 : zCd := zk 34 3 (.iinc 2 0) 1 :: kP_misplacedShards_37
def kP_misplacedShards_4 : zCd := zo 4 1 (.iload 3) :: zk 5 2 (.iconst 0) (nI 32) :: zx 7 3 (.if_icmp .ge 0) 43 :: zo 10 1 (.aload 1) :: zo 11 1 (.iload 3) :: zz 12 3 (.invokevirtual 6) jT_ownerOf 2 :: zo 15 2 (.istore 4) :: zo 17 2 (.iload 4) :: zk 19 1 (.iconst 0) (-1) :: zx 20 3 (.if_icmp .eq 0) 34 :: zo 23 2 (.iload 4) :: zo 25 1 (.aload 0) :: zz 26 3 (.getfield 0) 3 5 :: zo 29 1 (.iload 3) :: zo 30 1 .iaload :: zx 31 3 (.if_icmp .eq 0) 37 :: kP_misplacedShards_34
def kP_misplacedShards_0 : zCd := zk 0 1 (.iconst 0) 0 :: zo 1 1 (.istore 2) :: zk 2 1 (.iconst 0) 0 :: zo 3 1 (.istore 3) :: kP_misplacedShards_4
def mP_misplacedShards : zMe := (yX1_misplacedShards, cX1_misplacedShards, 5, (Option.some Jvm.ClassFile.FieldType.int), 2, 41, kP_misplacedShards_0)
def kP_differingTargets_34 : zCd := zo 34 1 (.iload 2) :: zx 35 1 .ireturn 0 :: []
def kP_differingTargets_28 : zCd := zk 28 3 (.iinc 3 0) 1 :: zx 31 3 (.goto 0) 4 :: kP_differingTargets_34
def kP_differingTargets_4 : zCd := zo 4 1 (.iload 3) :: zk 5 2 (.iconst 0) (nI 32) :: zx 7 3 (.if_icmp .ge 0) 34 :: zo 10 1 (.aload 0) :: zz 11 3 (.getfield 0) 3 5 :: zo 14 1 (.iload 3) :: zo 15 1 .iaload :: zo 16 1 (.aload 1) :: zz 17 3 (.getfield 0) 3 5 :: zo 20 1 (.iload 3) :: zo 21 1 .iaload :: zx 22 3 (.if_icmp .eq 0) 28 :: zk 25 3 (.iinc 2 0) 1 :: kP_differingTargets_28
def kP_differingTargets_0 : zCd := zk 0 1 (.iconst 0) 0 :: zo 1 1 (.istore 2) :: zk 2 1 (.iconst 0) 0 :: zo 3 1 (.istore 3) :: kP_differingTargets_4
def mP_differingTargets : zMe := (yX1_differingTargets, cX1_differingTargets, 4, (Option.some Jvm.ClassFile.FieldType.int), 0, 0, kP_differingTargets_0)
def kP_wantedFits_38 : zCd := zk 38 1 (.iconst 0) 1 :: zx 39 1 .ireturn 1 :: []
def kP_wantedFits_32 : zCd := zk 32 3 (.iinc 3 0) 1 :: zx 35 3 (.goto 0) 2 :: kP_wantedFits_38
def kP_wantedFits_2 : zCd := zo 2 1 (.iload 3) :: zk 3 2 (.iconst 0) (nI 8) :: zx 5 3 (.if_icmp .ge 0) 38 :: zo 8 1 (.aload 0) :: zz 9 3 (.getfield 0) 3 4 :: zo 12 1 (.iload 3) :: zo 13 1 .iaload :: zo 14 1 (.aload 1) :: zo 15 1 (.iload 3) :: zz 16 3 (.invokevirtual 6) jT_weightOf 2 :: zo 19 1 (.iload 2) :: zo 20 1 (.aload 0) :: zz 21 3 (.getfield 0) 3 7 :: zz 24 3 (.invokestatic 0) jC_capacityFor 3 :: zx 27 3 (.if_icmp .le 0) 32 :: zk 30 1 (.iconst 0) 0 :: zx 31 1 .ireturn 1 :: kP_wantedFits_32
def kP_wantedFits_0 : zCd := zk 0 1 (.iconst 0) 0 :: zo 1 1 (.istore 3) :: kP_wantedFits_2
def mP_wantedFits : zMe := (yX1_wantedFits, cX1_wantedFits, 4, (Option.some Jvm.ClassFile.FieldType.boolean), 2, 41, kP_wantedFits_0)
def kP_leastSlackWithoutSkips_71 : zCd := zk 71 1 (.iconst 0) (-1) :: zx 72 1 .ireturn 0 :: []
def kP_leastSlackWithoutSkips_65 : zCd := zk 65 3 (.iinc 2 0) 1 :: zx 68 3 (.goto 0) 48 :: kP_leastSlackWithoutSkips_71
def kP_leastSlackWithoutSkips_48 : zCd := zo 48 1 (.iload 2) :: zk 49 2 (.iconst 0) (nI 100) :: zx 51 3 (.if_icmp .gt 0) 71 :: zo 54 1 (.aload 0) :: zo 55 1 (.aload 1) :: zo 56 1 (.iload 2) :: zz 57 3 (.invokevirtual 3) jP_wantedFits 3 :: zx 60 3 (.ifCond .eq 0) 65 :: zo 63 1 (.iload 2) :: zx 64 1 .ireturn 0 :: kP_leastSlackWithoutSkips_65
def kP_leastSlackWithoutSkips_46 : zCd := zk 46 1 (.iconst 0) 0 :: zo 47 1 (.istore 2) :: kP_leastSlackWithoutSkips_48
def kP_leastSlackWithoutSkips_10 : zCd := zo 10 1 (.iload 2) :: zk 11 2 (.iconst 0) (nI 32) :: zx 13 3 (.if_icmp .ge 0) 46 :: zo 16 1 (.aload 0) :: zz 17 3 (.getfield 0) 3 4 :: zo 20 1 (.aload 0) :: zo 21 1 (.aload 0) :: zo 22 1 (.iload 2) :: zz 23 3 (.invokestatic 0) jC_placeOfShard 1 :: zz 26 3 (.invokevirtual 3) jP_pointAfter 2 :: zz 29 3 (.invokevirtual 3) jP_pointCode 2 :: zz 32 3 (.invokestatic 0) jC_nodeOfPoint 1 :: zo 35 1 .dup2 :: zo 36 1 .iaload :: zk 37 1 (.iconst 0) 1 :: zo 38 1 .iadd :: zo 39 1 .iastore :: zk 40 3 (.iinc 2 0) 1 :: zx 43 3 (.goto 0) 10 :: kP_leastSlackWithoutSkips_46
def kP_leastSlackWithoutSkips_0 : zCd := zo 0 1 (.aload 0) :: zz 1 3 (.getfield 0) 3 4 :: zk 4 1 (.iconst 0) 0 :: zz 5 3 (.invokestatic 0) jJ_fill 2 :: zk 8 1 (.iconst 0) 0 :: zo 9 1 (.istore 2) :: kP_leastSlackWithoutSkips_10
def mP_leastSlackWithoutSkips : zMe := (yX1_leastSlackWithoutSkips, cX1_leastSlackWithoutSkips, 3, (Option.some Jvm.ClassFile.FieldType.int), 3, 64, kP_leastSlackWithoutSkips_0)
def kR_has_17 : zCd := zx 17 1 .ireturn 1 :: []
def kR_has_16 : zCd := zk 16 1 (.iconst 0) 0 :: kR_has_17
def kR_has_0 : zCd := zo 0 1 (.iload 1) :: zx 1 3 (.ifCond .lt 0) 16 :: zo 4 1 (.iload 1) :: zo 5 1 (.aload 0) :: zz 6 3 (.getfield 0) 4 2 :: zx 9 3 (.if_icmp .ge 0) 16 :: zk 12 1 (.iconst 0) 1 :: zx 13 3 (.goto 0) 17 :: kR_has_16
def mR_has : zMe := (yX2_has, cX2_has, 2, (Option.some Jvm.ClassFile.FieldType.boolean), 0, 0, kR_has_0)
def kR_part_23 : zCd := zo 23 1 (.aload 0) :: zz 24 3 (.getfield 0) 4 1 :: zo 27 1 (.iload 1) :: zk 28 1 (.iconst 0) (nI 4) :: zo 29 1 .imul :: zo 30 1 (.iload 2) :: zo 31 1 .iadd :: zo 32 1 .iaload :: zx 33 1 .ireturn 0 :: []
def kR_part_21 : zCd := zk 21 1 (.iconst 0) (-1) :: zx 22 1 .ireturn 0 :: kR_part_23
def kR_part_0 : zCd := zo 0 1 (.iload 1) :: zx 1 3 (.ifCond .lt 0) 21 :: zo 4 1 (.iload 1) :: zo 5 1 (.aload 0) :: zz 6 3 (.getfield 0) 4 2 :: zx 9 3 (.if_icmp .ge 0) 21 :: zo 12 1 (.iload 2) :: zx 13 3 (.ifCond .lt 0) 21 :: zo 16 1 (.iload 2) :: zk 17 1 (.iconst 0) (nI 4) :: zx 18 3 (.if_icmp .lt 0) 23 :: kR_part_21
def mR_part : zMe := (yX2_part, cX2_part, 3, (Option.some Jvm.ClassFile.FieldType.int), 0, 0, kR_part_0)
def kR_putPart_32 : zCd := zo 32 1 .return_ :: []
def kR_putPart_0 : zCd := zo 0 1 (.iload 1) :: zx 1 3 (.ifCond .lt 0) 32 :: zo 4 1 (.iload 1) :: zo 5 1 (.aload 0) :: zz 6 3 (.getfield 0) 4 2 :: zx 9 3 (.if_icmp .ge 0) 32 :: zo 12 1 (.iload 2) :: zx 13 3 (.ifCond .lt 0) 32 :: zo 16 1 (.iload 2) :: zk 17 1 (.iconst 0) (nI 4) :: zx 18 3 (.if_icmp .ge 0) 32 :: zo 21 1 (.aload 0) :: zz 22 3 (.getfield 0) 4 1 :: zo 25 1 (.iload 1) :: zk 26 1 (.iconst 0) (nI 4) :: zo 27 1 .imul :: zo 28 1 (.iload 2) :: zo 29 1 .iadd :: zo 30 1 (.iload 3) :: zo 31 1 .iastore :: kR_putPart_32
def mR_putPart : zMe := (yX2_putPart, cX2_putPart, 4, none, 0, 0, kR_putPart_0)
def kR_append_42 : zCd := zo 42 1 (.aload 0) :: zz 43 3 (.getfield 0) 4 2 :: zk 46 1 (.iconst 0) (nI 4) :: zo 47 1 .imul :: zo 48 2 (.istore 5) :: zo 50 1 (.aload 0) :: zz 51 3 (.getfield 0) 4 1 :: zo 54 2 (.iload 5) :: zo 56 1 (.iload 1) :: zo 57 1 .iastore :: zo 58 1 (.aload 0) :: zz 59 3 (.getfield 0) 4 1 :: zo 62 2 (.iload 5) :: zk 64 1 (.iconst 0) 1 :: zo 65 1 .iadd :: zo 66 1 (.iload 2) :: zo 67 1 .iastore :: zo 68 1 (.aload 0) :: zz 69 3 (.getfield 0) 4 1 :: zo 72 2 (.iload 5) :: zk 74 1 (.iconst 0) (nI 2) :: zo 75 1 .iadd :: zo 76 1 (.iload 3) :: zo 77 1 .iastore :: zo 78 1 (.aload 0) :: zz 79 3 (.getfield 0) 4 1 :: zo 82 2 (.iload 5) :: zk 84 1 (.iconst 0) (nI 3) :: zo 85 1 .iadd :: zo 86 2 (.iload 4) :: zo 88 1 .iastore :: zo 89 1 (.aload 0) :: zo 90 1 .dup :: zz 91 3 (.getfield 0) 4 2 :: zk 94 1 (.iconst 0) 1 :: zo 95 1 .iadd :: zz 96 3 (.putfield 0) 4 2 :: zo 99 1 .return_ :: []
def kR_append_0 : zCd := zo 0 1 (.aload 0) :: zz 1 3 (.getfield 0) 4 2 :: zo 4 1 (.aload 0) :: zz 5 3 (.getfield 0) 4 0 :: zx 8 3 (.if_icmp .lt 0) 42 :: zo 11 1 (.aload 0) :: zz 12 3 (.getfield 0) 4 1 :: zk 15 1 (.iconst 0) (nI 4) :: zo 16 1 (.aload 0) :: zz 17 3 (.getfield 0) 4 1 :: zk 20 1 (.iconst 0) 0 :: zo 21 1 (.aload 0) :: zz 22 3 (.getfield 0) 4 0 :: zk 25 1 (.iconst 0) 1 :: zo 26 1 .isub :: zk 27 1 (.iconst 0) (nI 4) :: zo 28 1 .imul :: zo 29 3 (.invokedynamic 0) :: zo 32 1 (.aload 0) :: zo 33 1 (.aload 0) :: zz 34 3 (.getfield 0) 4 0 :: zk 37 1 (.iconst 0) 1 :: zo 38 1 .isub :: zz 39 3 (.putfield 0) 4 2 :: kR_append_42
def mR_append : zMe := (yX2_append, cX2_append, 6, none, 1, 40, kR_append_0)
def kR_remove_51 : zCd := zo 51 1 .return_ :: []
def kR_remove_0 : zCd := zo 0 1 (.iload 1) :: zx 1 3 (.ifCond .lt 0) 51 :: zo 4 1 (.iload 1) :: zo 5 1 (.aload 0) :: zz 6 3 (.getfield 0) 4 2 :: zx 9 3 (.if_icmp .ge 0) 51 :: zo 12 1 (.iload 1) :: zk 13 1 (.iconst 0) 1 :: zo 14 1 .iadd :: zk 15 1 (.iconst 0) (nI 4) :: zo 16 1 .imul :: zo 17 1 (.istore 2) :: zo 18 1 (.aload 0) :: zz 19 3 (.getfield 0) 4 1 :: zo 22 1 (.iload 2) :: zo 23 1 (.aload 0) :: zz 24 3 (.getfield 0) 4 1 :: zo 27 1 (.iload 1) :: zk 28 1 (.iconst 0) (nI 4) :: zo 29 1 .imul :: zo 30 1 (.aload 0) :: zz 31 3 (.getfield 0) 4 2 :: zk 34 1 (.iconst 0) (nI 4) :: zo 35 1 .imul :: zo 36 1 (.iload 2) :: zo 37 1 .isub :: zo 38 3 (.invokedynamic 0) :: zo 41 1 (.aload 0) :: zo 42 1 .dup :: zz 43 3 (.getfield 0) 4 2 :: zk 46 1 (.iconst 0) 1 :: zo 47 1 .isub :: zz 48 3 (.putfield 0) 4 2 :: kR_remove_51
def mR_remove : zMe := (yX2_remove, cX2_remove, 3, none, 1, 40, kR_remove_0)
def kR_firstWith_28 : zCd := zk 28 1 (.iconst 0) (-1) :: zx 29 1 .ireturn 0 :: []
def kR_firstWith_22 : zCd := zk 22 3 (.iinc 3 0) 1 :: zx 25 3 (.goto 0) 2 :: kR_firstWith_28
def kR_firstWith_2 : zCd := zo 2 1 (.iload 3) :: zo 3 1 (.aload 0) :: zz 4 3 (.getfield 0) 4 2 :: zx 7 3 (.if_icmp .ge 0) 28 :: zo 10 1 (.aload 0) :: zo 11 1 (.iload 3) :: zo 12 1 (.iload 1) :: zz 13 3 (.invokevirtual 4) jR_part 3 :: zo 16 1 (.iload 2) :: zx 17 3 (.if_icmp .ne 0) 22 :: zo 20 1 (.iload 3) :: zx 21 1 .ireturn 0 :: kR_firstWith_22
def kR_firstWith_0 : zCd := zk 0 1 (.iconst 0) 0 :: zo 1 1 (.istore 3) :: kR_firstWith_2
def mR_firstWith : zMe := (yX2_firstWith, cX2_firstWith, 4, (Option.some Jvm.ClassFile.FieldType.int), 1, 22, kR_firstWith_0)
def kR_countWith_34 : zCd := zo 34 1 (.iload 3) :: zx 35 1 .ireturn 0 :: []
def kR_countWith_28 : zCd := zk 28 3 (.iinc 4 0) 1 :: zx 31 3 (.goto 0) 5 :: kR_countWith_34
def kR_countWith_5 : zCd := zo 5 2 (.iload 4) :: zo 7 1 (.aload 0) :: zz 8 3 (.getfield 0) 4 2 :: zx 11 3 (.if_icmp .ge 0) 34 :: zo 14 1 (.aload 0) :: zo 15 2 (.iload 4) :: zo 17 1 (.iload 1) :: zz 18 3 (.invokevirtual 4) jR_part 3 :: zo 21 1 (.iload 2) :: zx 22 3 (.if_icmp .ne 0) 28 :: zk 25 3 (.iinc 3 0) 1 :: kR_countWith_28
def kR_countWith_0 : zCd := zk 0 1 (.iconst 0) 0 :: zo 1 1 (.istore 3) :: zk 2 1 (.iconst 0) 0 :: zo 3 2 (.istore 4) :: kR_countWith_5
def mR_countWith : zMe := (yX2_countWith, cX2_countWith, 5, (Option.some Jvm.ClassFile.FieldType.int), 1, 22, kR_countWith_0)
def kR_removeWith_38 : zCd := zo 38 1 (.iload 3) :: zo 39 1 (.aload 0) :: zz 40 3 (.getfield 0) 4 2 :: zo 43 1 .isub :: zx 44 1 .ireturn 0 :: []
def kR_removeWith_32 : zCd := zk 32 3 (.iinc 4 0) (-1) :: zx 35 3 (.goto 0) 10 :: kR_removeWith_38
def kR_removeWith_10 : zCd := zo 10 2 (.iload 4) :: zx 12 3 (.ifCond .lt 0) 38 :: zo 15 1 (.aload 0) :: zo 16 2 (.iload 4) :: zo 18 1 (.iload 1) :: zz 19 3 (.invokevirtual 4) jR_part 3 :: zo 22 1 (.iload 2) :: zx 23 3 (.if_icmp .ne 0) 32 :: zo 26 1 (.aload 0) :: zo 27 2 (.iload 4) :: zz 29 3 (.invokevirtual 4) jR_remove 2 :: kR_removeWith_32
def kR_removeWith_0 : zCd := zo 0 1 (.aload 0) :: zz 1 3 (.getfield 0) 4 2 :: zo 4 1 (.istore 3) :: zo 5 1 (.iload 3) :: zk 6 1 (.iconst 0) 1 :: zo 7 1 .isub :: zo 8 2 (.istore 4) :: kR_removeWith_10
def mR_removeWith : zMe := (yX2_removeWith, cX2_removeWith, 5, (Option.some Jvm.ClassFile.FieldType.int), 2, 62, kR_removeWith_0)
def kS_init_0 : zCd := zo 0 1 (.aload 0) :: zo 1 3 .monitorexit :: zo 4 1 (.aload 0) :: zk 5 2 (.iconst 0) (nI 60) :: zx 7 2 (.newarray .char) 1 :: zz 9 3 (.putfield 1) 5 0 :: zo 12 1 (.aload 0) :: zk 13 1 (.iconst 0) 0 :: zz 14 3 (.putfield 0) 5 1 :: zo 17 1 (.aload 0) :: zk 18 1 (.iconst 0) 0 :: zz 19 3 (.putfield 0) 5 2 :: zo 22 1 (.aload 0) :: zk 23 2 (.iconst 0) (nI 20) :: zx 25 2 (.newarray .int) 0 :: zz 27 3 (.putfield 1) 5 3 :: zo 30 1 (.aload 0) :: zk 31 2 (.iconst 0) (nI 20) :: zx 33 2 (.newarray .int) 0 :: zz 35 3 (.putfield 1) 5 4 :: zo 38 1 (.aload 0) :: zk 39 2 (.iconst 0) (nI 20) :: zx 41 2 (.newarray .int) 0 :: zz 43 3 (.putfield 1) 5 5 :: zo 46 1 (.aload 0) :: zk 47 1 (.iconst 0) 0 :: zz 48 3 (.putfield 0) 5 6 :: zo 51 1 .return_ :: []
def mS_init : zMe := (yX3_init, cX3_init, 1, none, 1, 40, kS_init_0)
def kS_isFull_14 : zCd := zx 14 1 .ireturn 1 :: []
def kS_isFull_13 : zCd := zk 13 1 (.iconst 0) 0 :: kS_isFull_14
def kS_isFull_0 : zCd := zo 0 1 (.aload 0) :: zz 1 3 (.getfield 0) 5 1 :: zk 4 2 (.iconst 0) (nI 60) :: zx 6 3 (.if_icmp .lt 0) 13 :: zk 9 1 (.iconst 0) 1 :: zx 10 3 (.goto 0) 14 :: kS_isFull_13
def mS_isFull : zMe := (yX3_isFull, cX3_isFull, 1, (Option.some Jvm.ClassFile.FieldType.boolean), 0, 0, kS_isFull_0)
def kS_append_29 : zCd := zo 29 1 (.aload 0) :: zz 30 3 (.getfield 0) 5 1 :: zx 33 1 .ireturn 0 :: []
def kS_append_0 : zCd := zo 0 1 (.aload 0) :: zz 1 3 (.getfield 0) 5 1 :: zk 4 2 (.iconst 0) (nI 60) :: zx 6 3 (.if_icmp .ge 0) 29 :: zo 9 1 (.aload 0) :: zz 10 3 (.getfield 0) 5 0 :: zo 13 1 (.aload 0) :: zz 14 3 (.getfield 0) 5 1 :: zo 17 1 (.iload 1) :: zo 18 1 .castore :: zo 19 1 (.aload 0) :: zo 20 1 .dup :: zz 21 3 (.getfield 0) 5 1 :: zk 24 1 (.iconst 0) 1 :: zo 25 1 .iadd :: zz 26 3 (.putfield 0) 5 1 :: kS_append_29
def mS_append : zMe := (yX3_append, cX3_append, 2, (Option.some Jvm.ClassFile.FieldType.int), 0, 0, kS_append_0)
def kS_empty_0 : zCd := zo 0 1 (.aload 0) :: zk 1 1 (.iconst 0) 0 :: zz 2 3 (.putfield 0) 5 1 :: zo 5 1 .return_ :: []
def mS_empty : zMe := (yX3_empty, cX3_empty, 1, none, 0, 0, kS_empty_0)
def kS_current_31 : zCd := zx 31 1 .ireturn 0 :: []
def kS_current_30 : zCd := zk 30 1 (.iconst 0) (-1) :: kS_current_31
def kS_current_0 : zCd := zo 0 1 (.aload 0) :: zz 1 3 (.getfield 0) 5 2 :: zx 4 3 (.ifCond .lt 0) 30 :: zo 7 1 (.aload 0) :: zz 8 3 (.getfield 0) 5 2 :: zo 11 1 (.aload 0) :: zz 12 3 (.getfield 0) 5 1 :: zx 15 3 (.if_icmp .ge 0) 30 :: zo 18 1 (.aload 0) :: zz 19 3 (.getfield 0) 5 0 :: zo 22 1 (.aload 0) :: zz 23 3 (.getfield 0) 5 2 :: zo 26 1 .caload :: zx 27 3 (.goto 0) 31 :: kS_current_30
def mS_current : zMe := (yX3_current, cX3_current, 1, (Option.some Jvm.ClassFile.FieldType.int), 0, 0, kS_current_0)
def kS_isCommandLetter_41 : zCd := zx 41 1 .ireturn 1 :: []
def kS_isCommandLetter_40 : zCd := zk 40 1 (.iconst 0) 0 :: kS_isCommandLetter_41
def kS_isCommandLetter_36 : zCd := zk 36 1 (.iconst 0) 1 :: zx 37 3 (.goto 0) 41 :: kS_isCommandLetter_40
def kS_isCommandLetter_0 : zCd := zo 0 1 (.iload 0) :: zk 1 2 (.iconst 0) (nI 110) :: zx 3 3 (.if_icmp .eq 0) 36 :: zo 6 1 (.iload 0) :: zk 7 2 (.iconst 0) (nI 100) :: zx 9 3 (.if_icmp .eq 0) 36 :: zo 12 1 (.iload 0) :: zk 13 2 (.iconst 0) (nI 102) :: zx 15 3 (.if_icmp .eq 0) 36 :: zo 18 1 (.iload 0) :: zk 19 2 (.iconst 0) (nI 114) :: zx 21 3 (.if_icmp .eq 0) 36 :: zo 24 1 (.iload 0) :: zk 25 2 (.iconst 0) (nI 119) :: zx 27 3 (.if_icmp .eq 0) 36 :: zo 30 1 (.iload 0) :: zk 31 2 (.iconst 0) (nI 116) :: zx 33 3 (.if_icmp .ne 0) 40 :: kS_isCommandLetter_36
def mS_isCommandLetter : zMe := (yX3_isCommandLetter, cX3_isCommandLetter, 1, (Option.some Jvm.ClassFile.FieldType.boolean), 0, 0, kS_isCommandLetter_0)
def kS_readDigit_19 : zCd := zo 19 1 (.aload 0) :: zo 20 1 .dup :: zz 21 3 (.getfield 0) 5 2 :: zk 24 1 (.iconst 0) 1 :: zo 25 1 .iadd :: zz 26 3 (.putfield 0) 5 2 :: zo 29 1 (.iload 1) :: zk 30 2 (.iconst 0) (nI 48) :: zo 32 1 .isub :: zx 33 1 .ireturn 0 :: []
def kS_readDigit_17 : zCd := zk 17 1 (.iconst 0) (-1) :: zx 18 1 .ireturn 0 :: kS_readDigit_19
def kS_readDigit_0 : zCd := zo 0 1 (.aload 0) :: zz 1 3 (.invokevirtual 5) jS_current 1 :: zo 4 1 (.istore 1) :: zo 5 1 (.iload 1) :: zk 6 2 (.iconst 0) (nI 48) :: zx 8 3 (.if_icmp .lt 0) 17 :: zo 11 1 (.iload 1) :: zk 12 2 (.iconst 0) (nI 57) :: zx 14 3 (.if_icmp .le 0) 19 :: kS_readDigit_17
def mS_readDigit : zMe := (yX3_readDigit, cX3_readDigit, 2, (Option.some Jvm.ClassFile.FieldType.int), 1, 20, kS_readDigit_0)
def kS_readNumber_32 : zCd := zx 32 1 .ireturn 0 :: []
def kS_readNumber_26 : zCd := zo 26 1 (.iload 1) :: zk 27 2 (.iconst 0) (nI 10) :: zo 29 1 .imul :: zo 30 1 (.iload 2) :: zo 31 1 .iadd :: kS_readNumber_32
def kS_readNumber_12 : zCd := zo 12 1 (.aload 0) :: zz 13 3 (.invokevirtual 5) jS_readDigit 1 :: zo 16 1 (.istore 2) :: zo 17 1 (.iload 2) :: zk 18 1 (.iconst 0) (-1) :: zx 19 3 (.if_icmp .ne 0) 26 :: zo 22 1 (.iload 1) :: zx 23 3 (.goto 0) 32 :: kS_readNumber_26
def kS_readNumber_0 : zCd := zo 0 1 (.aload 0) :: zz 1 3 (.invokevirtual 5) jS_readDigit 1 :: zo 4 1 (.istore 1) :: zo 5 1 (.iload 1) :: zk 6 1 (.iconst 0) (-1) :: zx 7 3 (.if_icmp .ne 0) 12 :: zk 10 1 (.iconst 0) (-1) :: zx 11 1 .ireturn 0 :: kS_readNumber_12
def mS_readNumber : zMe := (yX3_readNumber, cX3_readNumber, 3, (Option.some Jvm.ClassFile.FieldType.int), 2, 41, kS_readNumber_0)
def kS_accept_10 : zCd := zo 10 1 (.aload 0) :: zo 11 1 .dup :: zz 12 3 (.getfield 0) 5 2 :: zk 15 1 (.iconst 0) 1 :: zo 16 1 .iadd :: zz 17 3 (.putfield 0) 5 2 :: zk 20 1 (.iconst 0) 1 :: zx 21 1 .ireturn 1 :: []
def kS_accept_0 : zCd := zo 0 1 (.aload 0) :: zz 1 3 (.invokevirtual 5) jS_current 1 :: zo 4 1 (.iload 1) :: zx 5 3 (.if_icmp .eq 0) 10 :: zk 8 1 (.iconst 0) 0 :: zx 9 1 .ireturn 1 :: kS_accept_10
def mS_accept : zMe := (yX3_accept, cX3_accept, 2, (Option.some Jvm.ClassFile.FieldType.boolean), 1, 20, kS_accept_0)
def kS_addCommand_49 : zCd := zo 49 1 .return_ :: []
def kS_addCommand_0 : zCd := zo 0 1 (.aload 0) :: zz 1 3 (.getfield 0) 5 6 :: zk 4 2 (.iconst 0) (nI 20) :: zx 6 3 (.if_icmp .ge 0) 49 :: zo 9 1 (.aload 0) :: zz 10 3 (.getfield 0) 5 3 :: zo 13 1 (.aload 0) :: zz 14 3 (.getfield 0) 5 6 :: zo 17 1 (.iload 1) :: zo 18 1 .iastore :: zo 19 1 (.aload 0) :: zz 20 3 (.getfield 0) 5 4 :: zo 23 1 (.aload 0) :: zz 24 3 (.getfield 0) 5 6 :: zo 27 1 (.iload 2) :: zo 28 1 .iastore :: zo 29 1 (.aload 0) :: zz 30 3 (.getfield 0) 5 5 :: zo 33 1 (.aload 0) :: zz 34 3 (.getfield 0) 5 6 :: zo 37 1 (.iload 3) :: zo 38 1 .iastore :: zo 39 1 (.aload 0) :: zo 40 1 .dup :: zz 41 3 (.getfield 0) 5 6 :: zk 44 1 (.iconst 0) 1 :: zo 45 1 .iadd :: zz 46 3 (.putfield 0) 5 6 :: kS_addCommand_49
def mS_addCommand : zMe := (yX3_addCommand, cX3_addCommand, 4, none, 0, 0, kS_addCommand_0)
def kS_readCommand_78 : zCd := zo 78 1 (.aload 0) :: zo 79 1 (.iload 1) :: zo 80 1 (.iload 2) :: zo 81 1 (.iload 3) :: zz 82 3 (.invokevirtual 5) jS_addCommand 4 :: zk 85 1 (.iconst 0) 1 :: zx 86 1 .ireturn 1 :: []
def kS_readCommand_76 : zCd := zk 76 1 (.iconst 0) 0 :: zx 77 1 .ireturn 1 :: kS_readCommand_78
def kS_readCommand_62 : zCd := zo 62 1 (.iload 3) :: zk 63 1 (.iconst 0) (-1) :: zx 64 3 (.if_icmp .eq 0) 76 :: zo 67 1 (.aload 0) :: zk 68 2 (.iconst 0) (nI 59) :: zz 70 3 (.invokevirtual 5) jS_accept 2 :: zx 73 3 (.ifCond .ne 0) 78 :: kS_readCommand_76
def kS_readCommand_61 : zCd := zo 61 1 (.istore 3) :: kS_readCommand_62
def kS_readCommand_60 : zCd := zk 60 1 (.iconst 0) (-1) :: kS_readCommand_61
def kS_readCommand_36 : zCd := zk 36 1 (.iconst 0) 0 :: zo 37 1 (.istore 3) :: zo 38 1 (.iload 1) :: zk 39 2 (.iconst 0) (nI 119) :: zx 41 3 (.if_icmp .ne 0) 62 :: zo 44 1 (.aload 0) :: zk 45 2 (.iconst 0) (nI 61) :: zz 47 3 (.invokevirtual 5) jS_accept 2 :: zx 50 3 (.ifCond .eq 0) 60 :: zo 53 1 (.aload 0) :: zz 54 3 (.invokevirtual 5) jS_readNumber 1 :: zx 57 3 (.goto 0) 61 :: kS_readCommand_60
def kS_readCommand_14 : zCd := zo 14 1 (.aload 0) :: zo 15 1 .dup :: zz 16 3 (.getfield 0) 5 2 :: zk 19 1 (.iconst 0) 1 :: zo 20 1 .iadd :: zz 21 3 (.putfield 0) 5 2 :: zo 24 1 (.aload 0) :: zz 25 3 (.invokevirtual 5) jS_readNumber 1 :: zo 28 1 (.istore 2) :: zo 29 1 (.iload 2) :: zk 30 1 (.iconst 0) (-1) :: zx 31 3 (.if_icmp .ne 0) 36 :: zk 34 1 (.iconst 0) 0 :: zx 35 1 .ireturn 1 :: kS_readCommand_36
def kS_readCommand_0 : zCd := zo 0 1 (.aload 0) :: zz 1 3 (.invokevirtual 5) jS_current 1 :: zo 4 1 (.istore 1) :: zo 5 1 (.iload 1) :: zz 6 3 (.invokestatic 0) jS_isCommandLetter 1 :: zx 9 3 (.ifCond .ne 0) 14 :: zk 12 1 (.iconst 0) 0 :: zx 13 1 .ireturn 1 :: kS_readCommand_14
def mS_readCommand : zMe := (yX3_readCommand, cX3_readCommand, 4, (Option.some Jvm.ClassFile.FieldType.boolean), 3, 63, kS_readCommand_0)
def kS_parse_49 : zCd := zo 49 1 (.aload 0) :: zz 50 3 (.getfield 0) 5 2 :: zx 53 1 .ireturn 0 :: []
def kS_parse_43 : zCd := zk 43 3 (.iinc 1 0) 1 :: zx 46 3 (.goto 0) 12 :: kS_parse_49
def kS_parse_30 : zCd := zo 30 1 (.aload 0) :: zz 31 3 (.getfield 0) 5 2 :: zo 34 1 (.aload 0) :: zz 35 3 (.getfield 0) 5 1 :: zx 38 3 (.if_icmp .lt 0) 43 :: zk 41 1 (.iconst 0) (-1) :: zx 42 1 .ireturn 0 :: kS_parse_43
def kS_parse_12 : zCd := zo 12 1 (.iload 1) :: zk 13 2 (.iconst 0) (nI 20) :: zx 15 3 (.if_icmp .ge 0) 49 :: zo 18 1 (.aload 0) :: zz 19 3 (.invokevirtual 5) jS_readCommand 1 :: zx 22 3 (.ifCond .ne 0) 30 :: zo 25 1 (.aload 0) :: zz 26 3 (.getfield 0) 5 2 :: zx 29 1 .ireturn 0 :: kS_parse_30
def kS_parse_0 : zCd := zo 0 1 (.aload 0) :: zk 1 1 (.iconst 0) 0 :: zz 2 3 (.putfield 0) 5 2 :: zo 5 1 (.aload 0) :: zk 6 1 (.iconst 0) 0 :: zz 7 3 (.putfield 0) 5 6 :: zk 10 1 (.iconst 0) 0 :: zo 11 1 (.istore 1) :: kS_parse_12
def mS_parse : zMe := (yX3_parse, cX3_parse, 2, (Option.some Jvm.ClassFile.FieldType.int), 4, 86, kS_parse_0)
def kT_time_0 : zCd := zo 0 1 (.aload 0) :: zz 1 3 (.getfield 0) 6 5 :: zk 4 1 (.iconst 0) 0 :: zo 5 1 .iaload :: zx 6 1 .ireturn 0 :: []
def mT_time : zMe := (yX4_time, cX4_time, 1, (Option.some Jvm.ClassFile.FieldType.int), 0, 0, kT_time_0)
def kT_isPresent_13 : zCd := zx 13 1 .ireturn 1 :: []
def kT_isPresent_12 : zCd := zk 12 1 (.iconst 0) 0 :: kT_isPresent_13
def kT_isPresent_0 : zCd := zo 0 1 (.aload 0) :: zo 1 1 (.iload 1) :: zz 2 3 (.invokevirtual 6) jT_stateOf 2 :: zx 5 3 (.ifCond .eq 0) 12 :: zk 8 1 (.iconst 0) 1 :: zx 9 3 (.goto 0) 13 :: kT_isPresent_12
def mT_isPresent : zMe := (yX4_isPresent, cX4_isPresent, 2, (Option.some Jvm.ClassFile.FieldType.boolean), 2, 41, kT_isPresent_0)
def kT_canDrain_14 : zCd := zx 14 1 .ireturn 1 :: []
def kT_canDrain_13 : zCd := zk 13 1 (.iconst 0) 0 :: kT_canDrain_14
def kT_canDrain_0 : zCd := zo 0 1 (.aload 0) :: zo 1 1 (.iload 1) :: zz 2 3 (.invokevirtual 6) jT_stateOf 2 :: zk 5 1 (.iconst 0) 1 :: zx 6 3 (.if_icmp .ne 0) 13 :: zk 9 1 (.iconst 0) 1 :: zx 10 3 (.goto 0) 14 :: kT_canDrain_13
def mT_canDrain : zMe := (yX4_canDrain, cX4_canDrain, 2, (Option.some Jvm.ClassFile.FieldType.boolean), 2, 41, kT_canDrain_0)
def kT_canFail_23 : zCd := zx 23 1 .ireturn 1 :: []
def kT_canFail_22 : zCd := zk 22 1 (.iconst 0) 0 :: kT_canFail_23
def kT_canFail_18 : zCd := zk 18 1 (.iconst 0) 1 :: zx 19 3 (.goto 0) 23 :: kT_canFail_22
def kT_canFail_0 : zCd := zo 0 1 (.aload 0) :: zo 1 1 (.iload 1) :: zz 2 3 (.invokevirtual 6) jT_stateOf 2 :: zk 5 1 (.iconst 0) 1 :: zx 6 3 (.if_icmp .eq 0) 18 :: zo 9 1 (.aload 0) :: zo 10 1 (.iload 1) :: zz 11 3 (.invokevirtual 6) jT_stateOf 2 :: zk 14 1 (.iconst 0) (nI 2) :: zx 15 3 (.if_icmp .ne 0) 22 :: kT_canFail_18
def mT_canFail : zMe := (yX4_canFail, cX4_canFail, 2, (Option.some Jvm.ClassFile.FieldType.boolean), 2, 41, kT_canFail_0)
def kT_canRecover_23 : zCd := zx 23 1 .ireturn 1 :: []
def kT_canRecover_22 : zCd := zk 22 1 (.iconst 0) 0 :: kT_canRecover_23
def kT_canRecover_18 : zCd := zk 18 1 (.iconst 0) 1 :: zx 19 3 (.goto 0) 23 :: kT_canRecover_22
def kT_canRecover_0 : zCd := zo 0 1 (.aload 0) :: zo 1 1 (.iload 1) :: zz 2 3 (.invokevirtual 6) jT_stateOf 2 :: zk 5 1 (.iconst 0) (nI 2) :: zx 6 3 (.if_icmp .eq 0) 18 :: zo 9 1 (.aload 0) :: zo 10 1 (.iload 1) :: zz 11 3 (.invokevirtual 6) jT_stateOf 2 :: zk 14 1 (.iconst 0) (nI 3) :: zx 15 3 (.if_icmp .ne 0) 22 :: kT_canRecover_18
def mT_canRecover : zMe := (yX4_canRecover, cX4_canRecover, 2, (Option.some Jvm.ClassFile.FieldType.boolean), 2, 41, kT_canRecover_0)
def kT_lowestAbsent_25 : zCd := zk 25 1 (.iconst 0) (-1) :: zx 26 1 .ireturn 0 :: []
def kT_lowestAbsent_19 : zCd := zk 19 3 (.iinc 1 0) 1 :: zx 22 3 (.goto 0) 2 :: kT_lowestAbsent_25
def kT_lowestAbsent_2 : zCd := zo 2 1 (.iload 1) :: zk 3 2 (.iconst 0) (nI 8) :: zx 5 3 (.if_icmp .ge 0) 25 :: zo 8 1 (.aload 0) :: zz 9 3 (.getfield 0) 6 0 :: zo 12 1 (.iload 1) :: zo 13 1 .iaload :: zx 14 3 (.ifCond .ne 0) 19 :: zo 17 1 (.iload 1) :: zx 18 1 .ireturn 0 :: kT_lowestAbsent_19
def kT_lowestAbsent_0 : zCd := zk 0 1 (.iconst 0) 0 :: zo 1 1 (.istore 1) :: kT_lowestAbsent_2
def mT_lowestAbsent : zMe := (yX4_lowestAbsent, cX4_lowestAbsent, 2, (Option.some Jvm.ClassFile.FieldType.int), 0, 0, kT_lowestAbsent_0)
def kT_nodesInState_32 : zCd := zo 32 1 (.iload 2) :: zx 33 1 .ireturn 0 :: []
def kT_nodesInState_26 : zCd := zk 26 3 (.iinc 3 0) 1 :: zx 29 3 (.goto 0) 4 :: kT_nodesInState_32
def kT_nodesInState_4 : zCd := zo 4 1 (.iload 3) :: zk 5 2 (.iconst 0) (nI 8) :: zx 7 3 (.if_icmp .ge 0) 32 :: zo 10 1 (.aload 0) :: zz 11 3 (.getfield 0) 6 0 :: zo 14 1 (.iload 3) :: zo 15 1 .iaload :: zo 16 1 (.iload 1) :: zx 17 3 (.if_icmp .ne 0) 26 :: zo 20 1 (.iload 2) :: zk 21 1 (.iconst 0) 1 :: zo 22 1 (.iload 3) :: zo 23 1 .ishl :: zo 24 1 .ior :: zo 25 1 (.istore 2) :: kT_nodesInState_26
def kT_nodesInState_0 : zCd := zk 0 1 (.iconst 0) 0 :: zo 1 1 (.istore 2) :: zk 2 1 (.iconst 0) 0 :: zo 3 1 (.istore 3) :: kT_nodesInState_4
def mT_nodesInState : zMe := (yX4_nodesInState, cX4_nodesInState, 4, (Option.some Jvm.ClassFile.FieldType.int), 0, 0, kT_nodesInState_0)
def kJ_bitCount_0 : zCd := zo 0 1 (.iload 0) :: zo 1 1 (.iload 0) :: zk 2 1 (.iconst 0) 1 :: zo 3 1 .iushr :: zk 4 3 (.iconst 0) (nI 1431655765) :: zo 7 1 .iand :: zo 8 1 .isub :: zo 9 1 (.istore 0) :: zo 10 1 (.iload 0) :: zk 11 3 (.iconst 0) (nI 858993459) :: zo 14 1 .iand :: zo 15 1 (.iload 0) :: zk 16 1 (.iconst 0) (nI 2) :: zo 17 1 .iushr :: zk 18 3 (.iconst 0) (nI 858993459) :: zo 21 1 .iand :: zo 22 1 .iadd :: zo 23 1 (.istore 0) :: zo 24 1 (.iload 0) :: zo 25 1 (.iload 0) :: zk 26 1 (.iconst 0) (nI 4) :: zo 27 1 .iushr :: zo 28 1 .iadd :: zk 29 3 (.iconst 0) (nI 252645135) :: zo 32 1 .iand :: zo 33 1 (.istore 0) :: zo 34 1 (.iload 0) :: zo 35 1 (.iload 0) :: zk 36 2 (.iconst 0) (nI 8) :: zo 38 1 .iushr :: zo 39 1 .iadd :: zo 40 1 (.istore 0) :: zo 41 1 (.iload 0) :: zo 42 1 (.iload 0) :: zk 43 2 (.iconst 0) (nI 16) :: zo 45 1 .iushr :: zo 46 1 .iadd :: zo 47 1 (.istore 0) :: zo 48 1 (.iload 0) :: zk 49 2 (.iconst 0) (nI 63) :: zo 51 1 .iand :: zx 52 1 .ireturn 0 :: []
def mJ_bitCount : zMe := (yJ6_bitCount_0f7a4, cJ6_bitCount_0f7a4, 1, (Option.some Jvm.ClassFile.FieldType.int), 0, 0, kJ_bitCount_0)
def kT_presentNodes_0 : zCd := zk 0 2 (.iconst 0) (nI 8) :: zo 2 1 (.aload 0) :: zk 3 1 (.iconst 0) 0 :: zz 4 3 (.invokevirtual 6) jT_nodesInState 2 :: zz 7 3 (.invokestatic 0) jJ_bitCount 1 :: zo 10 1 .isub :: zx 11 1 .ireturn 0 :: []
def mT_presentNodes : zMe := (yX4_presentNodes, cX4_presentNodes, 1, (Option.some Jvm.ClassFile.FieldType.int), 1, 23, kT_presentNodes_0)
def kT_putState_9 : zCd := zo 9 1 (.aload 0) :: zz 10 3 (.getfield 0) 6 0 :: zo 13 1 (.iload 1) :: zo 14 1 (.iload 2) :: zo 15 1 .iastore :: zk 16 1 (.iconst 0) 1 :: zx 17 1 .ireturn 1 :: []
def kT_putState_0 : zCd := zo 0 1 (.iload 1) :: zz 1 3 (.invokestatic 0) jC_isNode 1 :: zx 4 3 (.ifCond .ne 0) 9 :: zk 7 1 (.iconst 0) 0 :: zx 8 1 .ireturn 1 :: kT_putState_9
def mT_putState : zMe := (yX4_putState, cX4_putState, 3, (Option.some Jvm.ClassFile.FieldType.boolean), 1, 20, kT_putState_0)
def kT_putWeight_9 : zCd := zo 9 1 (.aload 0) :: zz 10 3 (.getfield 0) 6 1 :: zo 13 1 (.iload 1) :: zo 14 1 (.iload 2) :: zo 15 1 .iastore :: zk 16 1 (.iconst 0) 1 :: zx 17 1 .ireturn 1 :: []
def kT_putWeight_0 : zCd := zo 0 1 (.iload 1) :: zz 1 3 (.invokestatic 0) jC_isNode 1 :: zx 4 3 (.ifCond .ne 0) 9 :: zk 7 1 (.iconst 0) 0 :: zx 8 1 .ireturn 1 :: kT_putWeight_9
def mT_putWeight : zMe := (yX4_putWeight, cX4_putWeight, 3, (Option.some Jvm.ClassFile.FieldType.boolean), 1, 20, kT_putWeight_0)
def kT_enter_23 : zCd := zx 23 1 .ireturn 1 :: []
def kT_enter_22 : zCd := zk 22 1 (.iconst 0) 0 :: kT_enter_23
def kT_enter_0 : zCd := zo 0 1 (.aload 0) :: zo 1 1 (.iload 1) :: zk 2 1 (.iconst 0) 1 :: zz 3 3 (.invokevirtual 6) jT_putState 3 :: zx 6 3 (.ifCond .eq 0) 22 :: zo 9 1 (.aload 0) :: zo 10 1 (.iload 1) :: zo 11 1 (.iload 2) :: zz 12 3 (.invokevirtual 6) jT_putWeight 3 :: zx 15 3 (.ifCond .eq 0) 22 :: zk 18 1 (.iconst 0) 1 :: zx 19 3 (.goto 0) 23 :: kT_enter_22
def mT_enter : zMe := (yX4_enter, cX4_enter, 3, (Option.some Jvm.ClassFile.FieldType.boolean), 2, 42, kT_enter_0)
def kC_isWeight_15 : zCd := zx 15 1 .ireturn 1 :: []
def kC_isWeight_14 : zCd := zk 14 1 (.iconst 0) 0 :: kC_isWeight_15
def kC_isWeight_0 : zCd := zo 0 1 (.iload 0) :: zk 1 1 (.iconst 0) 1 :: zx 2 3 (.if_icmp .lt 0) 14 :: zo 5 1 (.iload 0) :: zk 6 1 (.iconst 0) (nI 5) :: zx 7 3 (.if_icmp .gt 0) 14 :: zk 10 1 (.iconst 0) 1 :: zx 11 3 (.goto 0) 15 :: kC_isWeight_14
def mC_isWeight : zMe := (yX6_isWeight, cX6_isWeight, 1, (Option.some Jvm.ClassFile.FieldType.boolean), 0, 0, kC_isWeight_0)
def kT_tryToEnter_24 : zCd := zx 24 1 .ireturn 1 :: []
def kT_tryToEnter_23 : zCd := zk 23 1 (.iconst 0) 0 :: kT_tryToEnter_24
def kT_tryToEnter_0 : zCd := zo 0 1 (.iload 1) :: zz 1 3 (.invokestatic 0) jC_isWeight 1 :: zx 4 3 (.ifCond .eq 0) 23 :: zo 7 1 (.aload 0) :: zo 8 1 (.aload 0) :: zz 9 3 (.invokevirtual 6) jT_lowestAbsent 1 :: zo 12 1 (.iload 1) :: zz 13 3 (.invokevirtual 6) jT_enter 3 :: zx 16 3 (.ifCond .eq 0) 23 :: zk 19 1 (.iconst 0) 1 :: zx 20 3 (.goto 0) 24 :: kT_tryToEnter_23
def mT_tryToEnter : zMe := (yX4_tryToEnter, cX4_tryToEnter, 2, (Option.some Jvm.ClassFile.FieldType.boolean), 3, 64, kT_tryToEnter_0)
def kT_leave_0 : zCd := zo 0 1 (.aload 0) :: zo 1 1 (.iload 1) :: zk 2 1 (.iconst 0) 0 :: zz 3 3 (.invokevirtual 6) jT_putState 3 :: zo 6 1 .pop :: zo 7 1 (.aload 0) :: zo 8 1 (.iload 1) :: zk 9 1 (.iconst 0) 0 :: zz 10 3 (.invokevirtual 6) jT_putWeight 3 :: zo 13 1 .pop :: zo 14 1 .return_ :: []
def mT_leave : zMe := (yX4_leave, cX4_leave, 2, none, 2, 42, kT_leave_0)
def kT_leaseOf_17 : zCd := zx 17 1 .ireturn 0 :: []
def kT_leaseOf_16 : zCd := zk 16 1 (.iconst 0) (-1) :: kT_leaseOf_17
def kT_leaseOf_0 : zCd := zo 0 1 (.iload 1) :: zz 1 3 (.invokestatic 0) jC_isShard 1 :: zx 4 3 (.ifCond .eq 0) 16 :: zo 7 1 (.aload 0) :: zz 8 3 (.getfield 0) 6 3 :: zo 11 1 (.iload 1) :: zo 12 1 .iaload :: zx 13 3 (.goto 0) 17 :: kT_leaseOf_16
def mT_leaseOf : zMe := (yX4_leaseOf, cX4_leaseOf, 2, (Option.some Jvm.ClassFile.FieldType.int), 1, 20, kT_leaseOf_0)
def kT_isServed_25 : zCd := zx 25 1 .ireturn 1 :: []
def kT_isServed_24 : zCd := zk 24 1 (.iconst 0) 0 :: kT_isServed_25
def kT_isServed_20 : zCd := zk 20 1 (.iconst 0) 1 :: zx 21 3 (.goto 0) 25 :: kT_isServed_24
def kT_isServed_0 : zCd := zo 0 1 (.aload 0) :: zo 1 1 (.aload 0) :: zo 2 1 (.iload 1) :: zz 3 3 (.invokevirtual 6) jT_ownerOf 2 :: zz 6 3 (.invokevirtual 6) jT_stateOf 2 :: zo 9 1 (.istore 2) :: zo 10 1 (.iload 2) :: zk 11 1 (.iconst 0) 1 :: zx 12 3 (.if_icmp .eq 0) 20 :: zo 15 1 (.iload 2) :: zk 16 1 (.iconst 0) (nI 2) :: zx 17 3 (.if_icmp .ne 0) 24 :: kT_isServed_20
def mT_isServed : zMe := (yX4_isServed, cX4_isServed, 3, (Option.some Jvm.ClassFile.FieldType.boolean), 2, 41, kT_isServed_0)
def kT_ownedShards_29 : zCd := zo 29 1 (.iload 2) :: zx 30 1 .ireturn 0 :: []
def kT_ownedShards_23 : zCd := zk 23 3 (.iinc 3 0) 1 :: zx 26 3 (.goto 0) 4 :: kT_ownedShards_29
def kT_ownedShards_4 : zCd := zo 4 1 (.iload 3) :: zk 5 2 (.iconst 0) (nI 32) :: zx 7 3 (.if_icmp .ge 0) 29 :: zo 10 1 (.aload 0) :: zz 11 3 (.getfield 0) 6 2 :: zo 14 1 (.iload 3) :: zo 15 1 .iaload :: zo 16 1 (.iload 1) :: zx 17 3 (.if_icmp .ne 0) 23 :: zk 20 3 (.iinc 2 0) 1 :: kT_ownedShards_23
def kT_ownedShards_0 : zCd := zk 0 1 (.iconst 0) 0 :: zo 1 1 (.istore 2) :: zk 2 1 (.iconst 0) 0 :: zo 3 1 (.istore 3) :: kT_ownedShards_4
def mT_ownedShards : zMe := (yX4_ownedShards, cX4_ownedShards, 4, (Option.some Jvm.ClassFile.FieldType.int), 0, 0, kT_ownedShards_0)
def kC_sizeOfShard_0 : zCd := zk 0 1 (.iconst 0) 1 :: zk 1 3 (.iconst 0) (nI 2000) :: zo 4 1 (.iload 0) :: zo 5 1 .iadd :: zz 6 3 (.invokestatic 0) jC_placeOf 1 :: zk 9 2 (.iconst 0) (nI 9) :: zo 11 1 .irem :: zo 12 1 .iadd :: zx 13 1 .ireturn 0 :: []
def mC_sizeOfShard : zMe := (yX6_sizeOfShard, cX6_sizeOfShard, 1, (Option.some Jvm.ClassFile.FieldType.int), 1, 21, kC_sizeOfShard_0)
def kT_ownedSizes_33 : zCd := zo 33 1 (.iload 2) :: zx 34 1 .ireturn 0 :: []
def kT_ownedSizes_27 : zCd := zk 27 3 (.iinc 3 0) 1 :: zx 30 3 (.goto 0) 4 :: kT_ownedSizes_33
def kT_ownedSizes_4 : zCd := zo 4 1 (.iload 3) :: zk 5 2 (.iconst 0) (nI 32) :: zx 7 3 (.if_icmp .ge 0) 33 :: zo 10 1 (.aload 0) :: zz 11 3 (.getfield 0) 6 2 :: zo 14 1 (.iload 3) :: zo 15 1 .iaload :: zo 16 1 (.iload 1) :: zx 17 3 (.if_icmp .ne 0) 27 :: zo 20 1 (.iload 2) :: zo 21 1 (.iload 3) :: zz 22 3 (.invokestatic 0) jC_sizeOfShard 1 :: zo 25 1 .iadd :: zo 26 1 (.istore 2) :: kT_ownedSizes_27
def kT_ownedSizes_0 : zCd := zk 0 1 (.iconst 0) 0 :: zo 1 1 (.istore 2) :: zk 2 1 (.iconst 0) 0 :: zo 3 1 (.istore 3) :: kT_ownedSizes_4
def mT_ownedSizes : zMe := (yX4_ownedSizes, cX4_ownedSizes, 4, (Option.some Jvm.ClassFile.FieldType.int), 2, 41, kT_ownedSizes_0)
def kT_unservedShards_27 : zCd := zo 27 1 (.iload 1) :: zx 28 1 .ireturn 0 :: []
def kT_unservedShards_21 : zCd := zk 21 3 (.iinc 2 0) 1 :: zx 24 3 (.goto 0) 4 :: kT_unservedShards_27
def kT_unservedShards_4 : zCd := zo 4 1 (.iload 2) :: zk 5 2 (.iconst 0) (nI 32) :: zx 7 3 (.if_icmp .ge 0) 27 :: zo 10 1 (.aload 0) :: zo 11 1 (.iload 2) :: zz 12 3 (.invokevirtual 6) jT_isServed 2 :: zx 15 3 (.ifCond .ne 0) 21 :: zk 18 3 (.iinc 1 0) 1 :: kT_unservedShards_21
def kT_unservedShards_0 : zCd := zk 0 1 (.iconst 0) 0 :: zo 1 1 (.istore 1) :: zk 2 1 (.iconst 0) 0 :: zo 3 1 (.istore 2) :: kT_unservedShards_4
def mT_unservedShards : zMe := (yX4_unservedShards, cX4_unservedShards, 3, (Option.some Jvm.ClassFile.FieldType.int), 3, 63, kT_unservedShards_0)
def kT_grant_31 : zCd := zo 31 1 .return_ :: []
def kT_grant_0 : zCd := zo 0 1 (.iload 1) :: zz 1 3 (.invokestatic 0) jC_isShard 1 :: zx 4 3 (.ifCond .eq 0) 31 :: zo 7 1 (.aload 0) :: zz 8 3 (.getfield 0) 6 2 :: zo 11 1 (.iload 1) :: zo 12 1 (.iload 2) :: zo 13 1 .iastore :: zo 14 1 (.aload 0) :: zz 15 3 (.getfield 0) 6 3 :: zo 18 1 (.iload 1) :: zo 19 1 (.aload 0) :: zz 20 3 (.invokevirtual 6) jT_time 1 :: zo 23 1 (.aload 0) :: zz 24 3 (.getfield 0) 6 4 :: zk 27 1 (.iconst 0) (nI 2) :: zo 28 1 .iaload :: zo 29 1 .iadd :: zo 30 1 .iastore :: kT_grant_31
def mT_grant : zMe := (yX4_grant, cX4_grant, 3, none, 1, 20, kT_grant_0)
def kT_release_21 : zCd := zo 21 1 .return_ :: []
def kT_release_0 : zCd := zo 0 1 (.iload 1) :: zz 1 3 (.invokestatic 0) jC_isShard 1 :: zx 4 3 (.ifCond .eq 0) 21 :: zo 7 1 (.aload 0) :: zz 8 3 (.getfield 0) 6 2 :: zo 11 1 (.iload 1) :: zk 12 1 (.iconst 0) (-1) :: zo 13 1 .iastore :: zo 14 1 (.aload 0) :: zz 15 3 (.getfield 0) 6 3 :: zo 18 1 (.iload 1) :: zk 19 1 (.iconst 0) (-1) :: zo 20 1 .iastore :: kT_release_21
def mT_release : zMe := (yX4_release, cX4_release, 2, none, 1, 20, kT_release_0)
def kT_note_0 : zCd := zo 0 1 (.aload 0) :: zz 1 3 (.getfield 0) 6 7 :: zo 4 1 (.aload 0) :: zz 5 3 (.invokevirtual 6) jT_time 1 :: zo 8 1 (.iload 1) :: zo 9 1 (.iload 2) :: zo 10 1 (.iload 3) :: zz 11 3 (.invokevirtual 4) jR_append 5 :: zo 14 1 .return_ :: []
def mT_note : zMe := (yX4_note, cX4_note, 4, none, 2, 65, kT_note_0)
def kK_attendToLeases_82 : zCd := zo 82 1 .return_ :: []
def kK_attendToLeases_76 : zCd := zk 76 3 (.iinc 1 0) 1 :: zx 79 3 (.goto 0) 2 :: kK_attendToLeases_82
def kK_attendToLeases_36 : zCd := zo 36 1 (.iload 2) :: zk 37 1 (.iconst 0) (-1) :: zx 38 3 (.if_icmp .eq 0) 76 :: zo 41 1 (.aload 0) :: zo 42 1 (.iload 1) :: zz 43 3 (.invokevirtual 6) jT_leaseOf 2 :: zo 46 1 (.aload 0) :: zz 47 3 (.invokevirtual 6) jT_time 1 :: zx 50 3 (.if_icmp .gt 0) 76 :: zo 53 1 (.aload 0) :: zo 54 1 (.iload 1) :: zz 55 3 (.invokevirtual 6) jT_release 2 :: zo 58 1 (.aload 0) :: zz 59 3 (.getfield 0) 6 5 :: zk 62 2 (.iconst 0) (nI 6) :: zo 64 1 .dup2 :: zo 65 1 .iaload :: zk 66 1 (.iconst 0) 1 :: zo 67 1 .iadd :: zo 68 1 .iastore :: zo 69 1 (.aload 0) :: zk 70 1 (.iconst 0) (nI 3) :: zo 71 1 (.iload 1) :: zo 72 1 (.iload 2) :: zz 73 3 (.invokevirtual 6) jT_note 4 :: kK_attendToLeases_76
def kK_attendToLeases_2 : zCd := zo 2 1 (.iload 1) :: zk 3 2 (.iconst 0) (nI 32) :: zx 5 3 (.if_icmp .ge 0) 82 :: zo 8 1 (.aload 0) :: zo 9 1 (.iload 1) :: zz 10 3 (.invokevirtual 6) jT_ownerOf 2 :: zo 13 1 (.istore 2) :: zo 14 1 (.iload 2) :: zk 15 1 (.iconst 0) (-1) :: zx 16 3 (.if_icmp .eq 0) 36 :: zo 19 1 (.aload 0) :: zo 20 1 (.iload 1) :: zz 21 3 (.invokevirtual 6) jT_isServed 2 :: zx 24 3 (.ifCond .eq 0) 36 :: zo 27 1 (.aload 0) :: zo 28 1 (.iload 1) :: zo 29 1 (.iload 2) :: zz 30 3 (.invokevirtual 6) jT_grant 3 :: zx 33 3 (.goto 0) 76 :: kK_attendToLeases_36
def kK_attendToLeases_0 : zCd := zk 0 1 (.iconst 0) 0 :: zo 1 1 (.istore 1) :: kK_attendToLeases_2
def mK_attendToLeases : zMe := (yX5_attendToLeases, cX5_attendToLeases, 3, none, 3, 88, kK_attendToLeases_0)
def kK_mustCancel_71 : zCd := zx 71 1 .ireturn 1 :: []
def kK_mustCancel_70 : zCd := zk 70 1 (.iconst 0) 0 :: kK_mustCancel_71
def kK_mustCancel_66 : zCd := zk 66 1 (.iconst 0) 1 :: zx 67 3 (.goto 0) 71 :: kK_mustCancel_70
def kK_mustCancel_40 : zCd := zo 40 2 (.iload 4) :: zk 42 1 (.iconst 0) (-1) :: zx 43 3 (.if_icmp .eq 0) 70 :: zo 46 2 (.iload 4) :: zo 48 1 (.aload 0) :: zo 49 1 (.iload 3) :: zz 50 3 (.invokevirtual 6) jT_ownerOf 2 :: zx 53 3 (.if_icmp .ne 0) 66 :: zo 56 1 (.aload 0) :: zo 57 2 (.iload 4) :: zz 59 3 (.invokevirtual 6) jT_stateOf 2 :: zk 62 1 (.iconst 0) (nI 3) :: zx 63 3 (.if_icmp .ne 0) 70 :: kK_mustCancel_66
def kK_mustCancel_0 : zCd := zo 0 1 (.aload 0) :: zz 1 3 (.getfield 0) 6 6 :: zo 4 1 (.iload 2) :: zk 5 1 (.iconst 0) 0 :: zz 6 3 (.invokevirtual 4) jR_part 3 :: zo 9 1 (.istore 3) :: zo 10 1 (.aload 0) :: zz 11 3 (.getfield 0) 6 6 :: zo 14 1 (.iload 2) :: zk 15 1 (.iconst 0) 1 :: zz 16 3 (.invokevirtual 4) jR_part 3 :: zo 19 2 (.istore 4) :: zo 21 1 (.aload 0) :: zz 22 3 (.getfield 0) 6 6 :: zo 25 1 (.iload 2) :: zk 26 1 (.iconst 0) (nI 2) :: zz 27 3 (.invokevirtual 4) jR_part 3 :: zo 30 1 (.aload 1) :: zo 31 1 (.iload 3) :: zz 32 3 (.invokevirtual 3) jP_targetOf 2 :: zx 35 3 (.if_icmp .eq 0) 40 :: zk 38 1 (.iconst 0) 1 :: zx 39 1 .ireturn 1 :: kK_mustCancel_40
def mK_mustCancel : zMe := (yX5_mustCancel, cX5_mustCancel, 5, (Option.some Jvm.ClassFile.FieldType.boolean), 2, 41, kK_mustCancel_0)
def kK_cancelMove_0 : zCd := zo 0 1 (.aload 0) :: zz 1 3 (.getfield 0) 6 6 :: zo 4 1 (.iload 1) :: zk 5 1 (.iconst 0) 0 :: zz 6 3 (.invokevirtual 4) jR_part 3 :: zo 9 1 (.istore 2) :: zo 10 1 (.aload 0) :: zz 11 3 (.getfield 0) 6 6 :: zo 14 1 (.iload 1) :: zk 15 1 (.iconst 0) (nI 2) :: zz 16 3 (.invokevirtual 4) jR_part 3 :: zo 19 1 (.istore 3) :: zo 20 1 (.aload 0) :: zz 21 3 (.getfield 0) 6 5 :: zk 24 1 (.iconst 0) (nI 3) :: zo 25 1 .dup2 :: zo 26 1 .iaload :: zk 27 1 (.iconst 0) 1 :: zo 28 1 .iadd :: zo 29 1 .iastore :: zo 30 1 (.aload 0) :: zk 31 1 (.iconst 0) (nI 2) :: zo 32 1 (.iload 2) :: zo 33 1 (.iload 3) :: zz 34 3 (.invokevirtual 6) jT_note 4 :: zo 37 1 (.aload 0) :: zz 38 3 (.getfield 0) 6 6 :: zo 41 1 (.iload 1) :: zz 42 3 (.invokevirtual 4) jR_remove 2 :: zo 45 1 .return_ :: []
def mK_cancelMove : zMe := (yX5_cancelMove, cX5_cancelMove, 4, none, 3, 88, kK_cancelMove_0)
def kK_endMove_0 : zCd := zo 0 1 (.aload 0) :: zz 1 3 (.getfield 0) 6 6 :: zo 4 1 (.iload 1) :: zk 5 1 (.iconst 0) 0 :: zz 6 3 (.invokevirtual 4) jR_part 3 :: zo 9 1 (.istore 2) :: zo 10 1 (.aload 0) :: zz 11 3 (.getfield 0) 6 6 :: zo 14 1 (.iload 1) :: zk 15 1 (.iconst 0) (nI 2) :: zz 16 3 (.invokevirtual 4) jR_part 3 :: zo 19 1 (.istore 3) :: zo 20 1 (.aload 0) :: zo 21 1 (.iload 2) :: zo 22 1 (.iload 3) :: zz 23 3 (.invokevirtual 6) jT_grant 3 :: zo 26 1 (.aload 0) :: zz 27 3 (.getfield 0) 6 5 :: zk 30 1 (.iconst 0) (nI 2) :: zo 31 1 .dup2 :: zo 32 1 .iaload :: zk 33 1 (.iconst 0) 1 :: zo 34 1 .iadd :: zo 35 1 .iastore :: zo 36 1 (.aload 0) :: zz 37 3 (.getfield 0) 6 5 :: zk 40 1 (.iconst 0) (nI 4) :: zo 41 1 .dup2 :: zo 42 1 .iaload :: zo 43 1 (.iload 2) :: zz 44 3 (.invokestatic 0) jC_sizeOfShard 1 :: zo 47 1 .iadd :: zo 48 1 .iastore :: zo 49 1 (.aload 0) :: zk 50 1 (.iconst 0) 1 :: zo 51 1 (.iload 2) :: zo 52 1 (.iload 3) :: zz 53 3 (.invokevirtual 6) jT_note 4 :: zo 56 1 (.aload 0) :: zz 57 3 (.getfield 0) 6 6 :: zo 60 1 (.iload 1) :: zz 61 3 (.invokevirtual 4) jR_remove 2 :: zo 64 1 .return_ :: []
def mK_endMove : zMe := (yX5_endMove, cX5_endMove, 4, none, 3, 88, kK_endMove_0)
def kK_advanceMoves_97 : zCd := zo 97 1 .return_ :: []
def kK_advanceMoves_91 : zCd := zk 91 3 (.iinc 5 0) 1 :: zx 94 3 (.goto 0) 16 :: kK_advanceMoves_97
def kK_advanceMoves_72 : zCd := zo 72 1 (.aload 2) :: zo 73 2 (.iload 4) :: zk 75 1 (.iconst 0) (nI 3) :: zo 76 1 (.aload 2) :: zo 77 2 (.iload 4) :: zk 79 1 (.iconst 0) (nI 3) :: zz 80 3 (.invokevirtual 4) jR_part 3 :: zk 83 1 (.iconst 0) 1 :: zo 84 1 .iadd :: zz 85 3 (.invokevirtual 4) jR_putPart 4 :: zk 88 3 (.iinc 4 0) 1 :: kK_advanceMoves_91
def kK_advanceMoves_41 : zCd := zo 41 1 (.aload 2) :: zo 42 2 (.iload 4) :: zk 44 1 (.iconst 0) (nI 3) :: zz 45 3 (.invokevirtual 4) jR_part 3 :: zk 48 1 (.iconst 0) 1 :: zo 49 1 .iadd :: zo 50 1 (.aload 2) :: zo 51 2 (.iload 4) :: zk 53 1 (.iconst 0) 0 :: zz 54 3 (.invokevirtual 4) jR_part 3 :: zz 57 3 (.invokestatic 0) jC_sizeOfShard 1 :: zx 60 3 (.if_icmp .lt 0) 72 :: zo 63 1 (.aload 0) :: zo 64 2 (.iload 4) :: zz 66 3 (.invokestatic 0) jK_endMove 2 :: zx 69 3 (.goto 0) 91 :: kK_advanceMoves_72
def kK_advanceMoves_16 : zCd := zo 16 2 (.iload 5) :: zo 18 1 (.iload 3) :: zx 19 3 (.if_icmp .ge 0) 97 :: zo 22 1 (.aload 0) :: zo 23 1 (.aload 1) :: zo 24 2 (.iload 4) :: zz 26 3 (.invokestatic 0) jK_mustCancel 3 :: zx 29 3 (.ifCond .eq 0) 41 :: zo 32 1 (.aload 0) :: zo 33 2 (.iload 4) :: zz 35 3 (.invokestatic 0) jK_cancelMove 2 :: zx 38 3 (.goto 0) 91 :: kK_advanceMoves_41
def kK_advanceMoves_0 : zCd := zo 0 1 (.aload 0) :: zz 1 3 (.getfield 0) 6 6 :: zo 4 1 (.astore 2) :: zo 5 1 (.aload 2) :: zz 6 3 (.getfield 0) 4 2 :: zo 9 1 (.istore 3) :: zk 10 1 (.iconst 0) 0 :: zo 11 2 (.istore 4) :: zk 13 1 (.iconst 0) 0 :: zo 14 2 (.istore 5) :: kK_advanceMoves_16
def mK_advanceMoves : zMe := (yX5_advanceMoves, cX5_advanceMoves, 6, none, 4, 111, kK_advanceMoves_0)
def kK_isCandidate_66 : zCd := zx 66 1 .ireturn 1 :: []
def kK_isCandidate_65 : zCd := zk 65 1 (.iconst 0) 0 :: kK_isCandidate_66
def kK_isCandidate_0 : zCd := zo 0 1 (.aload 0) :: zo 1 1 (.iload 2) :: zz 2 3 (.invokevirtual 6) jT_ownerOf 2 :: zo 5 1 (.istore 3) :: zo 6 1 (.aload 1) :: zo 7 1 (.iload 2) :: zz 8 3 (.invokevirtual 3) jP_targetOf 2 :: zo 11 2 (.istore 4) :: zo 13 2 (.iload 4) :: zk 15 1 (.iconst 0) (-1) :: zx 16 3 (.if_icmp .eq 0) 65 :: zo 19 2 (.iload 4) :: zo 21 1 (.iload 3) :: zx 22 3 (.if_icmp .eq 0) 65 :: zo 25 1 (.aload 0) :: zo 26 1 (.iload 3) :: zz 27 3 (.invokevirtual 6) jT_stateOf 2 :: zk 30 1 (.iconst 0) (nI 3) :: zx 31 3 (.if_icmp .eq 0) 65 :: zo 34 1 (.aload 0) :: zz 35 3 (.getfield 0) 6 6 :: zk 38 1 (.iconst 0) 0 :: zo 39 1 (.iload 2) :: zz 40 3 (.invokevirtual 4) jR_firstWith 3 :: zk 43 1 (.iconst 0) (-1) :: zx 44 3 (.if_icmp .ne 0) 65 :: zo 47 1 (.aload 0) :: zz 48 3 (.getfield 0) 6 6 :: zk 51 1 (.iconst 0) (nI 2) :: zo 52 2 (.iload 4) :: zz 54 3 (.invokevirtual 4) jR_countWith 3 :: zk 57 1 (.iconst 0) (nI 2) :: zx 58 3 (.if_icmp .ge 0) 65 :: zk 61 1 (.iconst 0) 1 :: zx 62 3 (.goto 0) 66 :: kK_isCandidate_65
def mK_isCandidate : zMe := (yX5_isCandidate, cX5_isCandidate, 5, (Option.some Jvm.ClassFile.FieldType.boolean), 2, 46, kK_isCandidate_0)
def kK_rankOf_29 : zCd := zo 29 1 (.iload 3) :: zk 30 2 (.iconst 0) (nI 10) :: zo 32 1 .imul :: zo 33 1 (.iload 1) :: zz 34 3 (.invokestatic 0) jC_sizeOfShard 1 :: zo 37 1 .iadd :: zx 38 1 .ireturn 0 :: []
def kK_rankOf_18 : zCd := zo 18 1 (.aload 0) :: zo 19 1 (.iload 2) :: zz 20 3 (.invokevirtual 6) jT_stateOf 2 :: zk 23 1 (.iconst 0) (nI 2) :: zx 24 3 (.if_icmp .ne 0) 29 :: zk 27 1 (.iconst 0) 1 :: zo 28 1 (.istore 3) :: kK_rankOf_29
def kK_rankOf_0 : zCd := zo 0 1 (.aload 0) :: zo 1 1 (.iload 1) :: zz 2 3 (.invokevirtual 6) jT_ownerOf 2 :: zo 5 1 (.istore 2) :: zk 6 1 (.iconst 0) (nI 2) :: zo 7 1 (.istore 3) :: zo 8 1 (.iload 2) :: zk 9 1 (.iconst 0) (-1) :: zx 10 3 (.if_icmp .ne 0) 18 :: zk 13 1 (.iconst 0) 0 :: zo 14 1 (.istore 3) :: zx 15 3 (.goto 0) 29 :: kK_rankOf_18
def mK_rankOf : zMe := (yX5_rankOf, cX5_rankOf, 4, (Option.some Jvm.ClassFile.FieldType.int), 2, 41, kK_rankOf_0)
def kK_bestCandidate_55 : zCd := zo 55 1 (.iload 2) :: zx 56 1 .ireturn 0 :: []
def kK_bestCandidate_49 : zCd := zk 49 3 (.iinc 4 0) 1 :: zx 52 3 (.goto 0) 7 :: kK_bestCandidate_55
def kK_bestCandidate_43 : zCd := zo 43 2 (.iload 4) :: zo 45 1 (.istore 2) :: zo 46 2 (.iload 5) :: zo 48 1 (.istore 3) :: kK_bestCandidate_49
def kK_bestCandidate_7 : zCd := zo 7 2 (.iload 4) :: zk 9 2 (.iconst 0) (nI 32) :: zx 11 3 (.if_icmp .ge 0) 55 :: zo 14 1 (.aload 0) :: zo 15 1 (.aload 1) :: zo 16 2 (.iload 4) :: zz 18 3 (.invokestatic 0) jK_isCandidate 3 :: zx 21 3 (.ifCond .eq 0) 49 :: zo 24 1 (.aload 0) :: zo 25 2 (.iload 4) :: zz 27 3 (.invokestatic 0) jK_rankOf 2 :: zo 30 2 (.istore 5) :: zo 32 1 (.iload 2) :: zk 33 1 (.iconst 0) (-1) :: zx 34 3 (.if_icmp .eq 0) 43 :: zo 37 2 (.iload 5) :: zo 39 1 (.iload 3) :: zx 40 3 (.if_icmp .ge 0) 49 :: kK_bestCandidate_43
def kK_bestCandidate_0 : zCd := zk 0 1 (.iconst 0) (-1) :: zo 1 1 (.istore 2) :: zk 2 1 (.iconst 0) 0 :: zo 3 1 (.istore 3) :: zk 4 1 (.iconst 0) 0 :: zo 5 2 (.istore 4) :: kK_bestCandidate_7
def mK_bestCandidate : zMe := (yX5_bestCandidate, cX5_bestCandidate, 6, (Option.some Jvm.ClassFile.FieldType.int), 3, 70, kK_bestCandidate_0)
def kK_beginMoves_85 : zCd := zo 85 1 .return_ :: []
def kK_beginMoves_34 : zCd := zo 34 1 (.aload 1) :: zo 35 2 (.iload 4) :: zz 37 3 (.invokevirtual 3) jP_targetOf 2 :: zo 40 2 (.istore 5) :: zo 42 1 (.aload 0) :: zz 43 3 (.getfield 0) 6 6 :: zo 46 2 (.iload 4) :: zo 48 1 (.aload 0) :: zo 49 2 (.iload 4) :: zz 51 3 (.invokevirtual 6) jT_ownerOf 2 :: zo 54 2 (.iload 5) :: zk 56 1 (.iconst 0) 0 :: zz 57 3 (.invokevirtual 4) jR_append 5 :: zo 60 1 (.aload 0) :: zz 61 3 (.getfield 0) 6 5 :: zk 64 1 (.iconst 0) 1 :: zo 65 1 .dup2 :: zo 66 1 .iaload :: zk 67 1 (.iconst 0) 1 :: zo 68 1 .iadd :: zo 69 1 .iastore :: zo 70 1 (.aload 0) :: zk 71 1 (.iconst 0) 0 :: zo 72 2 (.iload 4) :: zo 74 2 (.iload 5) :: zz 76 3 (.invokevirtual 6) jT_note 4 :: zk 79 3 (.iinc 3 0) 1 :: zx 82 3 (.goto 0) 15 :: kK_beginMoves_85
def kK_beginMoves_15 : zCd := zo 15 1 (.iload 3) :: zo 16 1 (.iload 2) :: zx 17 3 (.if_icmp .ge 0) 85 :: zo 20 1 (.aload 0) :: zo 21 1 (.aload 1) :: zz 22 3 (.invokestatic 0) jK_bestCandidate 2 :: zo 25 2 (.istore 4) :: zo 27 2 (.iload 4) :: zk 29 1 (.iconst 0) (-1) :: zx 30 3 (.if_icmp .ne 0) 34 :: zo 33 1 .return_ :: kK_beginMoves_34
def kK_beginMoves_0 : zCd := zo 0 1 (.aload 0) :: zz 1 3 (.getfield 0) 6 4 :: zk 4 1 (.iconst 0) 1 :: zo 5 1 .iaload :: zo 6 1 (.istore 2) :: zo 7 1 (.aload 0) :: zz 8 3 (.getfield 0) 6 6 :: zz 11 3 (.getfield 0) 4 2 :: zo 14 1 (.istore 3) :: kK_beginMoves_15
def mK_beginMoves : zMe := (yX5_beginMoves, cX5_beginMoves, 6, none, 4, 95, kK_beginMoves_0)
def kK_dismissEmptyNodes_43 : zCd := zo 43 1 .return_ :: []
def kK_dismissEmptyNodes_37 : zCd := zk 37 3 (.iinc 1 0) 1 :: zx 40 3 (.goto 0) 2 :: kK_dismissEmptyNodes_43
def kK_dismissEmptyNodes_2 : zCd := zo 2 1 (.iload 1) :: zk 3 2 (.iconst 0) (nI 8) :: zx 5 3 (.if_icmp .ge 0) 43 :: zo 8 1 (.aload 0) :: zo 9 1 (.iload 1) :: zz 10 3 (.invokevirtual 6) jT_stateOf 2 :: zk 13 1 (.iconst 0) (nI 2) :: zx 14 3 (.if_icmp .ne 0) 37 :: zo 17 1 (.aload 0) :: zo 18 1 (.iload 1) :: zz 19 3 (.invokevirtual 6) jT_ownedShards 2 :: zx 22 3 (.ifCond .ne 0) 37 :: zo 25 1 (.aload 0) :: zo 26 1 (.iload 1) :: zz 27 3 (.invokevirtual 6) jT_leave 2 :: zo 30 1 (.aload 0) :: zk 31 1 (.iconst 0) (nI 4) :: zk 32 1 (.iconst 0) (-1) :: zo 33 1 (.iload 1) :: zz 34 3 (.invokevirtual 6) jT_note 4 :: kK_dismissEmptyNodes_37
def kK_dismissEmptyNodes_0 : zCd := zk 0 1 (.iconst 0) 0 :: zo 1 1 (.istore 1) :: kK_dismissEmptyNodes_2
def mK_dismissEmptyNodes : zMe := (yX5_dismissEmptyNodes, cX5_dismissEmptyNodes, 2, none, 3, 88, kK_dismissEmptyNodes_0)
def kK_makeTicks_54 : zCd := zo 54 1 .return_ :: []
def kK_makeTicks_2 : zCd := zo 2 1 (.iload 3) :: zo 3 1 (.iload 2) :: zx 4 3 (.if_icmp .ge 0) 54 :: zo 7 1 (.aload 0) :: zz 8 3 (.getfield 0) 6 5 :: zk 11 1 (.iconst 0) 0 :: zo 12 1 .dup2 :: zo 13 1 .iaload :: zk 14 1 (.iconst 0) 1 :: zo 15 1 .iadd :: zo 16 1 .iastore :: zo 17 1 (.aload 0) :: zz 18 3 (.invokestatic 0) jK_attendToLeases 1 :: zo 21 1 (.aload 0) :: zo 22 1 (.aload 1) :: zz 23 3 (.invokestatic 0) jK_advanceMoves 2 :: zo 26 1 (.aload 0) :: zo 27 1 (.aload 1) :: zz 28 3 (.invokestatic 0) jK_beginMoves 2 :: zo 31 1 (.aload 0) :: zz 32 3 (.invokestatic 0) jK_dismissEmptyNodes 1 :: zo 35 1 (.aload 0) :: zz 36 3 (.getfield 0) 6 5 :: zk 39 1 (.iconst 0) (nI 5) :: zo 40 1 .dup2 :: zo 41 1 .iaload :: zo 42 1 (.aload 0) :: zz 43 3 (.invokevirtual 6) jT_unservedShards 1 :: zo 46 1 .iadd :: zo 47 1 .iastore :: zk 48 3 (.iinc 3 0) 1 :: zx 51 3 (.goto 0) 2 :: kK_makeTicks_54
def kK_makeTicks_0 : zCd := zk 0 1 (.iconst 0) 0 :: zo 1 1 (.istore 3) :: kK_makeTicks_2
def mK_makeTicks : zMe := (yX5_makeTicks, cX5_makeTicks, 4, none, 5, 136, kK_makeTicks_0)
def kK_ticksUntilNoneIsMisplaced_41 : zCd := zk 41 1 (.iconst 0) (-1) :: zx 42 1 .ireturn 0 :: []
def kK_ticksUntilNoneIsMisplaced_35 : zCd := zk 35 3 (.iinc 2 0) 1 :: zx 38 3 (.goto 0) 12 :: kK_ticksUntilNoneIsMisplaced_41
def kK_ticksUntilNoneIsMisplaced_12 : zCd := zo 12 1 (.iload 2) :: zk 13 3 (.iconst 0) (nI 300) :: zx 16 3 (.if_icmp .gt 0) 41 :: zo 19 1 (.aload 0) :: zo 20 1 (.aload 1) :: zk 21 1 (.iconst 0) 1 :: zz 22 3 (.invokestatic 0) jK_makeTicks 3 :: zo 25 1 (.aload 1) :: zo 26 1 (.aload 0) :: zz 27 3 (.invokevirtual 3) jP_misplacedShards 2 :: zx 30 3 (.ifCond .ne 0) 35 :: zo 33 1 (.iload 2) :: zx 34 1 .ireturn 0 :: kK_ticksUntilNoneIsMisplaced_35
def kK_ticksUntilNoneIsMisplaced_10 : zCd := zk 10 1 (.iconst 0) 1 :: zo 11 1 (.istore 2) :: kK_ticksUntilNoneIsMisplaced_12
def kK_ticksUntilNoneIsMisplaced_0 : zCd := zo 0 1 (.aload 1) :: zo 1 1 (.aload 0) :: zz 2 3 (.invokevirtual 3) jP_misplacedShards 2 :: zx 5 3 (.ifCond .ne 0) 10 :: zk 8 1 (.iconst 0) 0 :: zx 9 1 .ireturn 0 :: kK_ticksUntilNoneIsMisplaced_10
def mK_ticksUntilNoneIsMisplaced : zMe := (yX5_ticksUntilNoneIsMisplaced, cX5_ticksUntilNoneIsMisplaced, 3, (Option.some Jvm.ClassFile.FieldType.int), 6, 159, kK_ticksUntilNoneIsMisplaced_0)
def kC_codeOfPoint_0 : zCd := zk 0 2 (.iconst 0) (nI 64) :: zo 2 1 (.iload 0) :: zo 3 1 .imul :: zo 4 1 (.iload 1) :: zo 5 1 .iadd :: zz 6 3 (.invokestatic 0) jC_placeOf 1 :: zk 9 2 (.iconst 0) (nI 8) :: zo 11 1 .ishl :: zo 12 1 (.iload 0) :: zk 13 1 (.iconst 0) (nI 5) :: zo 14 1 .ishl :: zo 15 1 .ior :: zo 16 1 (.iload 1) :: zo 17 1 .ior :: zx 18 1 .ireturn 0 :: []
def mC_codeOfPoint : zMe := (yX6_codeOfPoint, cX6_codeOfPoint, 2, (Option.some Jvm.ClassFile.FieldType.int), 1, 21, kC_codeOfPoint_0)
def kC_allPointsInOrder_66 : zCd := zo 66 1 (.aload 0) :: zo 67 1 .areturn :: []
def kC_allPointsInOrder_56 : zCd := zo 56 1 (.aload 0) :: zo 57 1 (.iload 3) :: zo 58 1 (.iload 2) :: zo 59 1 .iastore :: zk 60 3 (.iinc 1 0) 1 :: zx 63 3 (.goto 0) 8 :: kC_allPointsInOrder_66
def kC_allPointsInOrder_29 : zCd := zo 29 1 (.iload 3) :: zx 30 3 (.ifCond .le 0) 56 :: zo 33 1 (.aload 0) :: zo 34 1 (.iload 3) :: zk 35 1 (.iconst 0) 1 :: zo 36 1 .isub :: zo 37 1 .iaload :: zo 38 1 (.iload 2) :: zx 39 3 (.if_icmp .le 0) 56 :: zo 42 1 (.aload 0) :: zo 43 1 (.iload 3) :: zo 44 1 (.aload 0) :: zo 45 1 (.iload 3) :: zk 46 1 (.iconst 0) 1 :: zo 47 1 .isub :: zo 48 1 .iaload :: zo 49 1 .iastore :: zk 50 3 (.iinc 3 0) (-1) :: zx 53 3 (.goto 0) 29 :: kC_allPointsInOrder_56
def kC_allPointsInOrder_8 : zCd := zo 8 1 (.iload 1) :: zk 9 3 (.iconst 0) (nI 160) :: zx 12 3 (.if_icmp .ge 0) 66 :: zo 15 1 (.iload 1) :: zk 16 2 (.iconst 0) (nI 20) :: zo 18 1 .idiv :: zo 19 1 (.iload 1) :: zk 20 2 (.iconst 0) (nI 20) :: zo 22 1 .irem :: zz 23 3 (.invokestatic 0) jC_codeOfPoint 2 :: zo 26 1 (.istore 2) :: zo 27 1 (.iload 1) :: zo 28 1 (.istore 3) :: kC_allPointsInOrder_29
def kC_allPointsInOrder_0 : zCd := zk 0 3 (.iconst 0) (nI 160) :: zx 3 2 (.newarray .int) 0 :: zo 5 1 (.astore 0) :: zk 6 1 (.iconst 0) 0 :: zo 7 1 (.istore 1) :: kC_allPointsInOrder_8
def mC_allPointsInOrder : zMe := (yX6_allPointsInOrder, cX6_allPointsInOrder, 4, (Option.some (Jvm.ClassFile.FieldType.array Jvm.ClassFile.FieldType.int)), 2, 42, kC_allPointsInOrder_0)
def kC_init_0 : zCd := zo 0 1 (.aload 0) :: zo 1 3 .monitorexit :: zo 4 1 (.aload 0) :: zs 5 3 (.new 0) 6 [(0, 1), (0, 1), (0, 1), (0, 1), (0, 1), (0, 1), (0, 1), (0, 1)] :: zo 8 1 .dup :: zz 9 3 (.invokespecial 0) jT_init 1 :: zz 12 3 (.putfield 1) 7 0 :: zo 15 1 (.aload 0) :: zs 16 3 (.new 0) 6 [(0, 1), (0, 1), (0, 1), (0, 1), (0, 1), (0, 1), (0, 1), (0, 1)] :: zo 19 1 .dup :: zz 20 3 (.invokespecial 0) jT_init 1 :: zz 23 3 (.putfield 1) 7 1 :: zo 26 1 (.aload 0) :: zs 27 3 (.new 0) 6 [(0, 1), (0, 1), (0, 1), (0, 1), (0, 1), (0, 1), (0, 1), (0, 1)] :: zo 30 1 .dup :: zz 31 3 (.invokespecial 0) jT_init 1 :: zz 34 3 (.putfield 1) 7 2 :: zo 37 1 (.aload 0) :: zs 38 3 (.new 0) 2 [(0, 1), (0, 0), (0, 0)] :: zo 41 1 .dup :: zz 42 3 (.invokespecial 0) jH_init 1 :: zz 45 3 (.putfield 1) 7 3 :: zo 48 1 (.aload 0) :: zs 49 3 (.new 0) 5 [(0, 1), (0, 0), (0, 0), (0, 1), (0, 1), (0, 1), (0, 0)] :: zo 52 1 .dup :: zz 53 3 (.invokespecial 0) jS_init 1 :: zz 56 3 (.putfield 1) 7 4 :: zo 59 1 (.aload 0) :: zk 60 1 (.iconst 0) 1 :: zz 61 3 (.putfield 0) 7 7 :: zo 64 1 (.aload 0) :: zk 65 1 (.iconst 0) 0 :: zz 66 3 (.putfield 0) 7 8 :: zz 69 3 (.invokestatic 0) jC_allPointsInOrder 0 :: zo 72 1 (.astore 1) :: zo 73 1 (.aload 0) :: zs 74 3 (.new 0) 3 [(0, 1), (0, 1), (0, 1), (0, 1), (0, 1), (0, 1), (0, 1), (0, 0), (0, 0)] :: zo 77 1 .dup :: zo 78 1 (.aload 1) :: zz 79 3 (.invokespecial 0) jP_init 2 :: zz 82 3 (.putfield 1) 7 5 :: zo 85 1 (.aload 0) :: zs 86 3 (.new 0) 3 [(0, 1), (0, 1), (0, 1), (0, 1), (0, 1), (0, 1), (0, 1), (0, 0), (0, 0)] :: zo 89 1 .dup :: zo 90 1 (.aload 1) :: zz 91 3 (.invokespecial 0) jP_init 2 :: zz 94 3 (.putfield 1) 7 6 :: zo 97 1 .return_ :: []
def mC_init : zMe := (yX6_init, cX6_init, 2, none, 4, 102, kC_init_0)
def kC_beginChange_0 : zCd := zo 0 1 (.aload 0) :: zz 1 3 (.getfield 0) 7 3 :: zo 4 1 (.aload 0) :: zz 5 3 (.getfield 0) 7 0 :: zz 8 3 (.invokevirtual 2) jH_keep 2 :: zo 11 1 (.aload 0) :: zk 12 1 (.iconst 0) 1 :: zz 13 3 (.putfield 0) 7 7 :: zo 16 1 .return_ :: []
def mC_beginChange : zMe := (yX6_beginChange, cX6_beginChange, 1, none, 4, 104, kC_beginChange_0)
def kC_addNode_40 : zCd := zo 40 1 (.aload 0) :: zz 41 3 (.invokevirtual 7) jC_beginChange 1 :: zo 44 1 (.aload 0) :: zz 45 3 (.getfield 0) 7 0 :: zo 48 1 (.iload 2) :: zo 49 1 (.iload 1) :: zz 50 3 (.invokevirtual 6) jT_enter 3 :: zo 53 1 .pop :: zo 54 1 (.iload 2) :: zx 55 1 .ireturn 0 :: []
def kC_addNode_17 : zCd := zo 17 1 (.aload 0) :: zz 18 3 (.getfield 0) 7 0 :: zz 21 3 (.invokevirtual 6) jT_lowestAbsent 1 :: zo 24 1 (.istore 2) :: zo 25 1 (.iload 2) :: zk 26 1 (.iconst 0) (-1) :: zx 27 3 (.if_icmp .ne 0) 40 :: zx 30 3 .athrow 1 :: kC_addNode_40
def kC_addNode_0 : zCd := zo 0 1 (.iload 1) :: zz 1 3 (.invokestatic 0) jC_isWeight 1 :: zx 4 3 (.ifCond .ne 0) 17 :: zx 7 3 .athrow 0 :: kC_addNode_17
def mC_addNode : zMe := (yX6_addNode, cX6_addNode, 3, (Option.some Jvm.ClassFile.FieldType.int), 8, 200, kC_addNode_0)
def kC_drain_42 : zCd := zo 42 1 (.aload 0) :: zz 43 3 (.invokevirtual 7) jC_beginChange 1 :: zo 46 1 (.aload 0) :: zz 47 3 (.getfield 0) 7 0 :: zo 50 1 (.iload 1) :: zk 51 1 (.iconst 0) (nI 2) :: zz 52 3 (.invokevirtual 6) jT_putState 3 :: zo 55 1 .pop :: zo 56 1 (.aload 0) :: zz 57 3 (.getfield 0) 7 0 :: zo 60 1 (.iload 1) :: zz 61 3 (.invokevirtual 6) jT_ownedShards 2 :: zx 64 1 .ireturn 0 :: []
def kC_drain_21 : zCd := zo 21 1 (.aload 0) :: zz 22 3 (.getfield 0) 7 0 :: zo 25 1 (.iload 1) :: zz 26 3 (.invokevirtual 6) jT_canDrain 2 :: zx 29 3 (.ifCond .ne 0) 42 :: zx 32 3 .athrow 1 :: kC_drain_42
def kC_drain_0 : zCd := zo 0 1 (.aload 0) :: zz 1 3 (.getfield 0) 7 0 :: zo 4 1 (.iload 1) :: zz 5 3 (.invokevirtual 6) jT_isPresent 2 :: zx 8 3 (.ifCond .ne 0) 21 :: zx 11 3 .athrow 2 :: kC_drain_21
def mC_drain : zMe := (yX6_drain, cX6_drain, 2, (Option.some Jvm.ClassFile.FieldType.int), 8, 200, kC_drain_0)
def kC_fail_42 : zCd := zo 42 1 (.aload 0) :: zz 43 3 (.invokevirtual 7) jC_beginChange 1 :: zo 46 1 (.aload 0) :: zz 47 3 (.getfield 0) 7 0 :: zo 50 1 (.iload 1) :: zk 51 1 (.iconst 0) (nI 3) :: zz 52 3 (.invokevirtual 6) jT_putState 3 :: zo 55 1 .pop :: zo 56 1 (.aload 0) :: zz 57 3 (.getfield 0) 7 0 :: zo 60 1 (.iload 1) :: zz 61 3 (.invokevirtual 6) jT_ownedShards 2 :: zx 64 1 .ireturn 0 :: []
def kC_fail_21 : zCd := zo 21 1 (.aload 0) :: zz 22 3 (.getfield 0) 7 0 :: zo 25 1 (.iload 1) :: zz 26 3 (.invokevirtual 6) jT_canFail 2 :: zx 29 3 (.ifCond .ne 0) 42 :: zx 32 3 .athrow 1 :: kC_fail_42
def kC_fail_0 : zCd := zo 0 1 (.aload 0) :: zz 1 3 (.getfield 0) 7 0 :: zo 4 1 (.iload 1) :: zz 5 3 (.invokevirtual 6) jT_isPresent 2 :: zx 8 3 (.ifCond .ne 0) 21 :: zx 11 3 .athrow 2 :: kC_fail_21
def mC_fail : zMe := (yX6_fail, cX6_fail, 2, (Option.some Jvm.ClassFile.FieldType.int), 8, 200, kC_fail_0)
def kC_recover_42 : zCd := zo 42 1 (.aload 0) :: zz 43 3 (.invokevirtual 7) jC_beginChange 1 :: zo 46 1 (.aload 0) :: zz 47 3 (.getfield 0) 7 0 :: zo 50 1 (.iload 1) :: zz 51 3 (.invokevirtual 6) jT_stateOf 2 :: zo 54 1 (.istore 2) :: zo 55 1 (.aload 0) :: zz 56 3 (.getfield 0) 7 0 :: zo 59 1 (.iload 1) :: zk 60 1 (.iconst 0) 1 :: zz 61 3 (.invokevirtual 6) jT_putState 3 :: zo 64 1 .pop :: zo 65 1 (.iload 2) :: zx 66 1 .ireturn 0 :: []
def kC_recover_21 : zCd := zo 21 1 (.aload 0) :: zz 22 3 (.getfield 0) 7 0 :: zo 25 1 (.iload 1) :: zz 26 3 (.invokevirtual 6) jT_canRecover 2 :: zx 29 3 (.ifCond .ne 0) 42 :: zx 32 3 .athrow 1 :: kC_recover_42
def kC_recover_0 : zCd := zo 0 1 (.aload 0) :: zz 1 3 (.getfield 0) 7 0 :: zo 4 1 (.iload 1) :: zz 5 3 (.invokevirtual 6) jT_isPresent 2 :: zx 8 3 (.ifCond .ne 0) 21 :: zx 11 3 .athrow 2 :: kC_recover_21
def mC_recover : zMe := (yX6_recover, cX6_recover, 3, (Option.some Jvm.ClassFile.FieldType.int), 8, 200, kC_recover_0)
def kC_setWeight_38 : zCd := zo 38 1 (.aload 0) :: zz 39 3 (.invokevirtual 7) jC_beginChange 1 :: zo 42 1 (.aload 0) :: zz 43 3 (.getfield 0) 7 0 :: zo 46 1 (.iload 1) :: zz 47 3 (.invokevirtual 6) jT_weightOf 2 :: zo 50 1 (.istore 3) :: zo 51 1 (.aload 0) :: zz 52 3 (.getfield 0) 7 0 :: zo 55 1 (.iload 1) :: zo 56 1 (.iload 2) :: zz 57 3 (.invokevirtual 6) jT_putWeight 3 :: zo 60 1 .pop :: zo 61 1 (.iload 3) :: zx 62 1 .ireturn 0 :: []
def kC_setWeight_21 : zCd := zo 21 1 (.iload 2) :: zz 22 3 (.invokestatic 0) jC_isWeight 1 :: zx 25 3 (.ifCond .ne 0) 38 :: zx 28 3 .athrow 0 :: kC_setWeight_38
def kC_setWeight_0 : zCd := zo 0 1 (.aload 0) :: zz 1 3 (.getfield 0) 7 0 :: zo 4 1 (.iload 1) :: zz 5 3 (.invokevirtual 6) jT_isPresent 2 :: zx 8 3 (.ifCond .ne 0) 21 :: zx 11 3 .athrow 2 :: kC_setWeight_21
def mC_setWeight : zMe := (yX6_setWeight, cX6_setWeight, 4, (Option.some Jvm.ClassFile.FieldType.int), 8, 200, kC_setWeight_0)
def kC_currentPlacement_23 : zCd := zo 23 1 (.aload 0) :: zz 24 3 (.getfield 0) 7 5 :: zo 27 1 .areturn :: []
def kC_currentPlacement_0 : zCd := zo 0 1 (.aload 0) :: zz 1 3 (.getfield 0) 7 7 :: zx 4 3 (.ifCond .eq 0) 23 :: zo 7 1 (.aload 0) :: zz 8 3 (.getfield 0) 7 5 :: zo 11 1 (.aload 0) :: zz 12 3 (.getfield 0) 7 0 :: zz 15 3 (.invokevirtual 3) jP_derive 2 :: zo 18 1 (.aload 0) :: zk 19 1 (.iconst 0) 0 :: zz 20 3 (.putfield 0) 7 7 :: kC_currentPlacement_23
def mC_currentPlacement : zMe := (yX6_currentPlacement, cX6_currentPlacement, 1, (Option.some (Jvm.ClassFile.FieldType.object "ShardRebalancer$Placement")), 4, 93, kC_currentPlacement_0)
def kC_node_127 : zCd := zx 127 3 .athrow 0 :: []
def kC_node_114 : zCd := zo 114 1 (.aload 0) :: zz 115 3 (.getfield 0) 7 0 :: zz 118 3 (.getfield 0) 6 6 :: zk 121 1 (.iconst 0) (nI 2) :: zo 122 1 (.iload 1) :: zz 123 3 (.invokevirtual 4) jR_countWith 3 :: zx 126 1 .ireturn 0 :: kC_node_127
def kC_node_105 : zCd := zo 105 1 (.aload 0) :: zz 106 3 (.getfield 0) 7 0 :: zo 109 1 (.iload 1) :: zz 110 3 (.invokevirtual 6) jT_ownedSizes 2 :: zx 113 1 .ireturn 0 :: kC_node_114
def kC_node_96 : zCd := zo 96 1 (.aload 0) :: zz 97 3 (.invokevirtual 7) jC_currentPlacement 1 :: zo 100 1 (.iload 1) :: zz 101 3 (.invokevirtual 3) jP_loadOf 2 :: zx 104 1 .ireturn 0 :: kC_node_105
def kC_node_87 : zCd := zo 87 1 (.aload 0) :: zz 88 3 (.getfield 0) 7 0 :: zo 91 1 (.iload 1) :: zz 92 3 (.invokevirtual 6) jT_ownedShards 2 :: zx 95 1 .ireturn 0 :: kC_node_96
def kC_node_78 : zCd := zo 78 1 (.aload 0) :: zz 79 3 (.invokevirtual 7) jC_currentPlacement 1 :: zo 82 1 (.iload 1) :: zz 83 3 (.invokevirtual 3) jP_capacityOf 2 :: zx 86 1 .ireturn 0 :: kC_node_87
def kC_node_69 : zCd := zo 69 1 (.aload 0) :: zz 70 3 (.getfield 0) 7 0 :: zo 73 1 (.iload 1) :: zz 74 3 (.invokevirtual 6) jT_weightOf 2 :: zx 77 1 .ireturn 0 :: kC_node_78
def kC_node_60 : zCd := zo 60 1 (.aload 0) :: zz 61 3 (.getfield 0) 7 0 :: zo 64 1 (.iload 1) :: zz 65 3 (.invokevirtual 6) jT_stateOf 2 :: zx 68 1 .ireturn 0 :: kC_node_69
def kC_node_17 : zCd := zo 17 1 (.iload 2) :: zs 18 42 (.tableswitch 0 0 0 #[]) 127 [(0, 60), (1, 69), ((nI 2), 78), ((nI 3), 87), ((nI 4), 96), ((nI 5), 105), ((nI 6), 114)] :: kC_node_60
def kC_node_0 : zCd := zo 0 1 (.iload 1) :: zz 1 3 (.invokestatic 0) jC_isNode 1 :: zx 4 3 (.ifCond .ne 0) 17 :: zx 7 3 .athrow 2 :: kC_node_17
def mC_node : zMe := (yX6_node, cX6_node, 3, (Option.some Jvm.ClassFile.FieldType.int), 8, 200, kC_node_0)
def kC_nodes_19 : zCd := zo 19 1 (.aload 0) :: zz 20 3 (.getfield 0) 7 0 :: zo 23 1 (.iload 1) :: zz 24 3 (.invokevirtual 6) jT_nodesInState 2 :: zx 27 1 .ireturn 0 :: []
def kC_nodes_9 : zCd := zx 9 3 .athrow 0 :: kC_nodes_19
def kC_nodes_0 : zCd := zo 0 1 (.iload 1) :: zx 1 3 (.ifCond .lt 0) 9 :: zo 4 1 (.iload 1) :: zk 5 1 (.iconst 0) (nI 3) :: zx 6 3 (.if_icmp .le 0) 19 :: kC_nodes_9
def mC_nodes : zMe := (yX6_nodes, cX6_nodes, 2, (Option.some Jvm.ClassFile.FieldType.int), 8, 200, kC_nodes_0)
def kC_isAllowed_78 : zCd := zk 78 1 (.iconst 0) 0 :: zx 79 1 .ireturn 1 :: []
def kC_isAllowed_77 : zCd := zx 77 1 .ireturn 1 :: kC_isAllowed_78
def kC_isAllowed_76 : zCd := zk 76 1 (.iconst 0) 0 :: kC_isAllowed_77
def kC_isAllowed_61 : zCd := zo 61 1 (.iload 1) :: zk 62 1 (.iconst 0) 1 :: zx 63 3 (.if_icmp .lt 0) 76 :: zo 66 1 (.iload 1) :: zk 67 2 (.iconst 0) (nI 20) :: zx 69 3 (.if_icmp .gt 0) 76 :: zk 72 1 (.iconst 0) 1 :: zx 73 3 (.goto 0) 77 :: kC_isAllowed_76
def kC_isAllowed_60 : zCd := zx 60 1 .ireturn 1 :: kC_isAllowed_61
def kC_isAllowed_59 : zCd := zk 59 1 (.iconst 0) 0 :: kC_isAllowed_60
def kC_isAllowed_44 : zCd := zo 44 1 (.iload 1) :: zk 45 1 (.iconst 0) 1 :: zx 46 3 (.if_icmp .lt 0) 59 :: zo 49 1 (.iload 1) :: zk 50 2 (.iconst 0) (nI 8) :: zx 52 3 (.if_icmp .gt 0) 59 :: zk 55 1 (.iconst 0) 1 :: zx 56 3 (.goto 0) 60 :: kC_isAllowed_59
def kC_isAllowed_43 : zCd := zx 43 1 .ireturn 1 :: kC_isAllowed_44
def kC_isAllowed_42 : zCd := zk 42 1 (.iconst 0) 0 :: kC_isAllowed_43
def kC_isAllowed_28 : zCd := zo 28 1 (.iload 1) :: zx 29 3 (.ifCond .lt 0) 42 :: zo 32 1 (.iload 1) :: zk 33 2 (.iconst 0) (nI 100) :: zx 35 3 (.if_icmp .gt 0) 42 :: zk 38 1 (.iconst 0) 1 :: zx 39 3 (.goto 0) 43 :: kC_isAllowed_42
def kC_isAllowed_0 : zCd := zo 0 1 (.iload 0) :: zs 1 27 (.tableswitch 0 0 0 #[]) 78 [(0, 28), (1, 44), ((nI 2), 61)] :: kC_isAllowed_28
def mC_isAllowed : zMe := (yX6_isAllowed, cX6_isAllowed, 2, (Option.some Jvm.ClassFile.FieldType.boolean), 0, 0, kC_isAllowed_0)
def kC_set_27 : zCd := zo 27 1 (.aload 0) :: zz 28 3 (.invokevirtual 7) jC_beginChange 1 :: zo 31 1 (.aload 0) :: zz 32 3 (.getfield 0) 7 0 :: zz 35 3 (.getfield 0) 6 4 :: zo 38 1 (.iload 1) :: zo 39 1 .iaload :: zo 40 1 (.istore 3) :: zo 41 1 (.aload 0) :: zz 42 3 (.getfield 0) 7 0 :: zz 45 3 (.getfield 0) 6 4 :: zo 48 1 (.iload 1) :: zo 49 1 (.iload 2) :: zo 50 1 .iastore :: zo 51 1 (.iload 3) :: zx 52 1 .ireturn 0 :: []
def kC_set_17 : zCd := zx 17 3 .athrow 0 :: kC_set_27
def kC_set_0 : zCd := zo 0 1 (.iload 1) :: zx 1 3 (.ifCond .lt 0) 17 :: zo 4 1 (.iload 1) :: zk 5 1 (.iconst 0) (nI 3) :: zx 6 3 (.if_icmp .ge 0) 17 :: zo 9 1 (.iload 1) :: zo 10 1 (.iload 2) :: zz 11 3 (.invokestatic 0) jC_isAllowed 2 :: zx 14 3 (.ifCond .ne 0) 27 :: kC_set_17
def mC_set : zMe := (yX6_set, cX6_set, 4, (Option.some Jvm.ClassFile.FieldType.int), 8, 200, kC_set_0)
def kC_points_0 : zCd := zo 0 1 (.aload 0) :: zz 1 3 (.invokevirtual 7) jC_currentPlacement 1 :: zz 4 3 (.getfield 0) 3 8 :: zx 7 1 .ireturn 0 :: []
def mC_points : zMe := (yX6_points, cX6_points, 1, (Option.some Jvm.ClassFile.FieldType.int), 5, 113, kC_points_0)
def kC_point_78 : zCd := zx 78 3 .athrow 0 :: []
def kC_point_72 : zCd := zo 72 2 (.iload 4) :: zz 74 3 (.invokestatic 0) jC_numberOfPoint 1 :: zx 77 1 .ireturn 0 :: kC_point_78
def kC_point_66 : zCd := zo 66 2 (.iload 4) :: zz 68 3 (.invokestatic 0) jC_nodeOfPoint 1 :: zx 71 1 .ireturn 0 :: kC_point_72
def kC_point_60 : zCd := zo 60 2 (.iload 4) :: zz 62 3 (.invokestatic 0) jC_placeOfPoint 1 :: zx 65 1 .ireturn 0 :: kC_point_66
def kC_point_27 : zCd := zo 27 1 (.aload 3) :: zo 28 1 (.iload 1) :: zz 29 3 (.invokevirtual 3) jP_pointCode 2 :: zo 32 2 (.istore 4) :: zo 34 1 (.iload 2) :: zs 35 25 (.tableswitch 0 0 0 #[]) 78 [(0, 60), (1, 66), ((nI 2), 72)] :: kC_point_60
def kC_point_17 : zCd := zx 17 3 .athrow 2 :: kC_point_27
def kC_point_0 : zCd := zo 0 1 (.aload 0) :: zz 1 3 (.invokevirtual 7) jC_currentPlacement 1 :: zo 4 1 (.astore 3) :: zo 5 1 (.iload 1) :: zx 6 3 (.ifCond .lt 0) 17 :: zo 9 1 (.iload 1) :: zo 10 1 (.aload 3) :: zz 11 3 (.getfield 0) 3 8 :: zx 14 3 (.if_icmp .lt 0) 27 :: kC_point_17
def mC_point : zMe := (yX6_point, cX6_point, 5, (Option.some Jvm.ClassFile.FieldType.int), 8, 200, kC_point_0)
def kC_successor_43 : zCd := zo 43 1 (.aload 2) :: zo 44 1 (.iload 1) :: zz 45 3 (.invokevirtual 3) jP_pointAfter 2 :: zx 48 1 .ireturn 0 :: []
def kC_successor_21 : zCd := zo 21 1 (.aload 0) :: zz 22 3 (.invokevirtual 7) jC_currentPlacement 1 :: zo 25 1 (.astore 2) :: zo 26 1 (.aload 2) :: zz 27 3 (.getfield 0) 3 8 :: zx 30 3 (.ifCond .ne 0) 43 :: zx 33 3 .athrow 3 :: kC_successor_43
def kC_successor_11 : zCd := zx 11 3 .athrow 0 :: kC_successor_21
def kC_successor_0 : zCd := zo 0 1 (.iload 1) :: zx 1 3 (.ifCond .lt 0) 11 :: zo 4 1 (.iload 1) :: zk 5 3 (.iconst 0) (nI 1023) :: zx 8 3 (.if_icmp .le 0) 21 :: kC_successor_11
def mC_successor : zMe := (yX6_successor, cX6_successor, 3, (Option.some Jvm.ClassFile.FieldType.int), 8, 200, kC_successor_0)
def kC_shard_140 : zCd := zx 140 3 .athrow 0 :: []
def kC_shard_131 : zCd := zo 131 1 (.aload 0) :: zz 132 3 (.invokevirtual 7) jC_currentPlacement 1 :: zo 135 1 (.iload 1) :: zz 136 3 (.invokevirtual 3) jP_skippedFor 2 :: zx 139 1 .ireturn 0 :: kC_shard_140
def kC_shard_118 : zCd := zo 118 1 (.aload 0) :: zz 119 3 (.getfield 0) 7 0 :: zz 122 3 (.getfield 0) 6 6 :: zk 125 1 (.iconst 0) 0 :: zo 126 1 (.iload 1) :: zz 127 3 (.invokevirtual 4) jR_firstWith 3 :: zx 130 1 .ireturn 0 :: kC_shard_131
def kC_shard_117 : zCd := zx 117 1 .ireturn 0 :: kC_shard_118
def kC_shard_116 : zCd := zk 116 1 (.iconst 0) 0 :: kC_shard_117
def kC_shard_101 : zCd := zo 101 1 (.aload 0) :: zz 102 3 (.getfield 0) 7 0 :: zo 105 1 (.iload 1) :: zz 106 3 (.invokevirtual 6) jT_isServed 2 :: zx 109 3 (.ifCond .eq 0) 116 :: zk 112 1 (.iconst 0) 1 :: zx 113 3 (.goto 0) 117 :: kC_shard_116
def kC_shard_92 : zCd := zo 92 1 (.aload 0) :: zz 93 3 (.getfield 0) 7 0 :: zo 96 1 (.iload 1) :: zz 97 3 (.invokevirtual 6) jT_leaseOf 2 :: zx 100 1 .ireturn 0 :: kC_shard_101
def kC_shard_83 : zCd := zo 83 1 (.aload 0) :: zz 84 3 (.getfield 0) 7 0 :: zo 87 1 (.iload 1) :: zz 88 3 (.invokevirtual 6) jT_ownerOf 2 :: zx 91 1 .ireturn 0 :: kC_shard_92
def kC_shard_74 : zCd := zo 74 1 (.aload 0) :: zz 75 3 (.invokevirtual 7) jC_currentPlacement 1 :: zo 78 1 (.iload 1) :: zz 79 3 (.invokevirtual 3) jP_targetOf 2 :: zx 82 1 .ireturn 0 :: kC_shard_83
def kC_shard_69 : zCd := zo 69 1 (.iload 1) :: zz 70 3 (.invokestatic 0) jC_sizeOfShard 1 :: zx 73 1 .ireturn 0 :: kC_shard_74
def kC_shard_64 : zCd := zo 64 1 (.iload 1) :: zz 65 3 (.invokestatic 0) jC_placeOfShard 1 :: zx 68 1 .ireturn 0 :: kC_shard_69
def kC_shard_17 : zCd := zo 17 1 (.iload 2) :: zs 18 46 (.tableswitch 0 0 0 #[]) 140 [(0, 64), (1, 69), ((nI 2), 74), ((nI 3), 83), ((nI 4), 92), ((nI 5), 101), ((nI 6), 118), ((nI 7), 131)] :: kC_shard_64
def kC_shard_0 : zCd := zo 0 1 (.iload 1) :: zz 1 3 (.invokestatic 0) jC_isShard 1 :: zx 4 3 (.ifCond .ne 0) 17 :: zx 7 3 .athrow 2 :: kC_shard_17
def mC_shard : zMe := (yX6_shard, cX6_shard, 3, (Option.some Jvm.ClassFile.FieldType.int), 8, 200, kC_shard_0)
def kC_route_29 : zCd := zo 29 1 (.aload 0) :: zz 30 3 (.getfield 0) 7 0 :: zo 33 1 (.iload 2) :: zz 34 3 (.invokevirtual 6) jT_ownerOf 2 :: zx 37 1 .ireturn 0 :: []
def kC_route_0 : zCd := zo 0 1 (.iload 1) :: zz 1 3 (.invokestatic 0) jC_placeOf 1 :: zk 4 2 (.iconst 0) (nI 32) :: zo 6 1 .irem :: zo 7 1 (.istore 2) :: zo 8 1 (.aload 0) :: zz 9 3 (.getfield 0) 7 0 :: zo 12 1 (.iload 2) :: zz 13 3 (.invokevirtual 6) jT_isServed 2 :: zx 16 3 (.ifCond .ne 0) 29 :: zx 19 3 .athrow 3 :: kC_route_29
def mC_route : zMe := (yX6_route, cX6_route, 3, (Option.some Jvm.ClassFile.FieldType.int), 8, 200, kC_route_0)
def kC_pending_0 : zCd := zo 0 1 (.aload 0) :: zz 1 3 (.invokevirtual 7) jC_currentPlacement 1 :: zo 4 1 (.aload 0) :: zz 5 3 (.getfield 0) 7 0 :: zz 8 3 (.invokevirtual 3) jP_misplacedShards 2 :: zx 11 1 .ireturn 0 :: []
def mC_pending : zMe := (yX6_pending, cX6_pending, 1, (Option.some Jvm.ClassFile.FieldType.int), 5, 113, kC_pending_0)
def kC_changedIf_96 : zCd := zo 96 1 (.aload 0) :: zz 97 3 (.getfield 0) 7 6 :: zo 100 1 (.aload 0) :: zz 101 3 (.getfield 0) 7 1 :: zz 104 3 (.invokevirtual 3) jP_derive 2 :: zo 107 1 (.aload 0) :: zz 108 3 (.getfield 0) 7 6 :: zo 111 1 (.aload 0) :: zz 112 3 (.invokevirtual 7) jC_currentPlacement 1 :: zz 115 3 (.invokevirtual 3) jP_differingTargets 2 :: zx 118 1 .ireturn 0 :: []
def kC_changedIf_86 : zCd := zo 86 1 (.aload 0) :: zz 87 3 (.getfield 0) 7 1 :: zo 90 1 (.iload 1) :: zo 91 1 (.iload 2) :: zz 92 3 (.invokevirtual 6) jT_putWeight 3 :: zo 95 1 .pop :: kC_changedIf_96
def kC_changedIf_60 : zCd := zo 60 1 (.aload 0) :: zz 61 3 (.getfield 0) 7 1 :: zo 64 1 (.aload 0) :: zz 65 3 (.getfield 0) 7 0 :: zz 68 3 (.invokevirtual 6) jT_copyFrom 2 :: zo 71 1 (.iload 2) :: zx 72 3 (.ifCond .ne 0) 86 :: zo 75 1 (.aload 0) :: zz 76 3 (.getfield 0) 7 1 :: zo 79 1 (.iload 1) :: zz 80 3 (.invokevirtual 6) jT_leave 2 :: zx 83 3 (.goto 0) 96 :: kC_changedIf_86
def kC_changedIf_38 : zCd := zo 38 1 (.aload 0) :: zz 39 3 (.getfield 0) 7 0 :: zo 42 1 (.iload 1) :: zz 43 3 (.invokevirtual 6) jT_stateOf 2 :: zk 46 1 (.iconst 0) 1 :: zx 47 3 (.if_icmp .eq 0) 60 :: zx 50 3 .athrow 1 :: kC_changedIf_60
def kC_changedIf_17 : zCd := zo 17 1 (.iload 2) :: zx 18 3 (.ifCond .eq 0) 38 :: zo 21 1 (.iload 2) :: zz 22 3 (.invokestatic 0) jC_isWeight 1 :: zx 25 3 (.ifCond .ne 0) 38 :: zx 28 3 .athrow 0 :: kC_changedIf_38
def kC_changedIf_0 : zCd := zo 0 1 (.iload 1) :: zz 1 3 (.invokestatic 0) jC_isNode 1 :: zx 4 3 (.ifCond .ne 0) 17 :: zx 7 3 .athrow 2 :: kC_changedIf_17
def mC_changedIf : zMe := (yX6_changedIf, cX6_changedIf, 3, (Option.some Jvm.ClassFile.FieldType.int), 8, 200, kC_changedIf_0)
def kC_leastSlack_46 : zCd := zo 46 1 (.iload 2) :: zx 47 1 .ireturn 0 :: []
def kC_leastSlack_22 : zCd := zo 22 1 (.aload 1) :: zo 23 1 (.aload 0) :: zz 24 3 (.getfield 0) 7 0 :: zz 27 3 (.invokevirtual 3) jP_leastSlackWithoutSkips 2 :: zo 30 1 (.istore 2) :: zo 31 1 (.iload 2) :: zk 32 1 (.iconst 0) (-1) :: zx 33 3 (.if_icmp .ne 0) 46 :: zx 36 3 .athrow 3 :: kC_leastSlack_46
def kC_leastSlack_0 : zCd := zo 0 1 (.aload 0) :: zz 1 3 (.invokevirtual 7) jC_currentPlacement 1 :: zo 4 1 (.astore 1) :: zo 5 1 (.aload 1) :: zz 6 3 (.getfield 0) 3 8 :: zx 9 3 (.ifCond .ne 0) 22 :: zx 12 3 .athrow 1 :: kC_leastSlack_22
def mC_leastSlack : zMe := (yX6_leastSlack, cX6_leastSlack, 3, (Option.some Jvm.ClassFile.FieldType.int), 8, 200, kC_leastSlack_0)
def kC_isTickCount_16 : zCd := zx 16 1 .ireturn 1 :: []
def kC_isTickCount_15 : zCd := zk 15 1 (.iconst 0) 0 :: kC_isTickCount_16
def kC_isTickCount_0 : zCd := zo 0 1 (.iload 0) :: zk 1 1 (.iconst 0) 1 :: zx 2 3 (.if_icmp .lt 0) 15 :: zo 5 1 (.iload 0) :: zk 6 2 (.iconst 0) (nI 50) :: zx 8 3 (.if_icmp .gt 0) 15 :: zk 11 1 (.iconst 0) 1 :: zx 12 3 (.goto 0) 16 :: kC_isTickCount_15
def mC_isTickCount : zMe := (yX6_isTickCount, cX6_isTickCount, 1, (Option.some Jvm.ClassFile.FieldType.boolean), 0, 0, kC_isTickCount_0)
def kC_tick_18 : zCd := zo 18 1 (.aload 0) :: zz 19 3 (.invokevirtual 7) jC_currentPlacement 1 :: zo 22 1 (.astore 2) :: zo 23 1 (.aload 0) :: zz 24 3 (.invokevirtual 7) jC_beginChange 1 :: zo 27 1 (.aload 0) :: zz 28 3 (.getfield 0) 7 0 :: zo 31 1 (.aload 2) :: zo 32 1 (.iload 1) :: zz 33 3 (.invokestatic 0) jK_makeTicks 3 :: zo 36 1 (.aload 0) :: zz 37 3 (.getfield 0) 7 0 :: zz 40 3 (.invokevirtual 6) jT_time 1 :: zx 43 1 .ireturn 0 :: []
def kC_tick_0 : zCd := zo 0 1 (.iload 1) :: zz 1 3 (.invokestatic 0) jC_isTickCount 1 :: zx 4 3 (.ifCond .ne 0) 18 :: zx 7 3 .athrow 0 :: kC_tick_18
def mC_tick : zMe := (yX6_tick, cX6_tick, 3, (Option.some Jvm.ClassFile.FieldType.int), 8, 200, kC_tick_0)
def kC_moves_0 : zCd := zo 0 1 (.aload 0) :: zz 1 3 (.getfield 0) 7 0 :: zz 4 3 (.getfield 0) 6 6 :: zz 7 3 (.getfield 0) 4 2 :: zx 10 1 .ireturn 0 :: []
def mC_moves : zMe := (yX6_moves, cX6_moves, 1, (Option.some Jvm.ClassFile.FieldType.int), 0, 0, kC_moves_0)
def kC_isPart_14 : zCd := zx 14 1 .ireturn 1 :: []
def kC_isPart_13 : zCd := zk 13 1 (.iconst 0) 0 :: kC_isPart_14
def kC_isPart_0 : zCd := zo 0 1 (.iload 0) :: zx 1 3 (.ifCond .lt 0) 13 :: zo 4 1 (.iload 0) :: zk 5 1 (.iconst 0) (nI 4) :: zx 6 3 (.if_icmp .ge 0) 13 :: zk 9 1 (.iconst 0) 1 :: zx 10 3 (.goto 0) 14 :: kC_isPart_13
def mC_isPart : zMe := (yX6_isPart, cX6_isPart, 1, (Option.some Jvm.ClassFile.FieldType.boolean), 0, 0, kC_isPart_0)
def kC_move_42 : zCd := zo 42 1 (.aload 0) :: zz 43 3 (.getfield 0) 7 0 :: zz 46 3 (.getfield 0) 6 6 :: zo 49 1 (.iload 1) :: zo 50 1 (.iload 2) :: zz 51 3 (.invokevirtual 4) jR_part 3 :: zx 54 1 .ireturn 0 :: []
def kC_move_25 : zCd := zo 25 1 (.iload 2) :: zz 26 3 (.invokestatic 0) jC_isPart 1 :: zx 29 3 (.ifCond .ne 0) 42 :: zx 32 3 .athrow 0 :: kC_move_42
def kC_move_0 : zCd := zo 0 1 (.aload 0) :: zz 1 3 (.getfield 0) 7 0 :: zz 4 3 (.getfield 0) 6 6 :: zo 7 1 (.iload 1) :: zz 8 3 (.invokevirtual 4) jR_has 2 :: zx 11 3 (.ifCond .ne 0) 25 :: zx 14 3 .athrow 2 :: kC_move_25
def mC_move : zMe := (yX6_move, cX6_move, 3, (Option.some Jvm.ClassFile.FieldType.int), 8, 200, kC_move_0)
def kC_forecast_41 : zCd := zo 41 1 (.iload 2) :: zx 42 1 .ireturn 0 :: []
def kC_forecast_0 : zCd := zo 0 1 (.aload 0) :: zz 1 3 (.invokevirtual 7) jC_currentPlacement 1 :: zo 4 1 (.astore 1) :: zo 5 1 (.aload 0) :: zz 6 3 (.getfield 0) 7 1 :: zo 9 1 (.aload 0) :: zz 10 3 (.getfield 0) 7 0 :: zz 13 3 (.invokevirtual 6) jT_copyFrom 2 :: zo 16 1 (.aload 0) :: zz 17 3 (.getfield 0) 7 1 :: zo 20 1 (.aload 1) :: zz 21 3 (.invokestatic 0) jK_ticksUntilNoneIsMisplaced 2 :: zo 24 1 (.istore 2) :: zo 25 1 (.iload 2) :: zk 26 1 (.iconst 0) (-1) :: zx 27 3 (.if_icmp .ne 0) 41 :: zx 30 3 .athrow 3 :: kC_forecast_41
def mC_forecast : zMe := (yX6_forecast, cX6_forecast, 3, (Option.some Jvm.ClassFile.FieldType.int), 8, 200, kC_forecast_0)
def kC_statistic_20 : zCd := zo 20 1 (.aload 0) :: zz 21 3 (.getfield 0) 7 0 :: zz 24 3 (.getfield 0) 6 5 :: zo 27 1 (.iload 1) :: zo 28 1 .iaload :: zx 29 1 .ireturn 0 :: []
def kC_statistic_10 : zCd := zx 10 3 .athrow 0 :: kC_statistic_20
def kC_statistic_0 : zCd := zo 0 1 (.iload 1) :: zx 1 3 (.ifCond .lt 0) 10 :: zo 4 1 (.iload 1) :: zk 5 2 (.iconst 0) (nI 7) :: zx 7 3 (.if_icmp .lt 0) 20 :: kC_statistic_10
def mC_statistic : zMe := (yX6_statistic, cX6_statistic, 2, (Option.some Jvm.ClassFile.FieldType.int), 8, 200, kC_statistic_0)
def kC_events_0 : zCd := zo 0 1 (.aload 0) :: zz 1 3 (.getfield 0) 7 0 :: zz 4 3 (.getfield 0) 6 7 :: zz 7 3 (.getfield 0) 4 2 :: zx 10 1 .ireturn 0 :: []
def mC_events : zMe := (yX6_events, cX6_events, 1, (Option.some Jvm.ClassFile.FieldType.int), 0, 0, kC_events_0)
def kC_event_42 : zCd := zo 42 1 (.aload 0) :: zz 43 3 (.getfield 0) 7 0 :: zz 46 3 (.getfield 0) 6 7 :: zo 49 1 (.iload 1) :: zo 50 1 (.iload 2) :: zz 51 3 (.invokevirtual 4) jR_part 3 :: zx 54 1 .ireturn 0 :: []
def kC_event_25 : zCd := zo 25 1 (.iload 2) :: zz 26 3 (.invokestatic 0) jC_isPart 1 :: zx 29 3 (.ifCond .ne 0) 42 :: zx 32 3 .athrow 0 :: kC_event_42
def kC_event_0 : zCd := zo 0 1 (.aload 0) :: zz 1 3 (.getfield 0) 7 0 :: zz 4 3 (.getfield 0) 6 7 :: zo 7 1 (.iload 1) :: zz 8 3 (.invokevirtual 4) jR_has 2 :: zx 11 3 (.ifCond .ne 0) 25 :: zx 14 3 .athrow 2 :: kC_event_25
def mC_event : zMe := (yX6_event, cX6_event, 3, (Option.some Jvm.ClassFile.FieldType.int), 8, 200, kC_event_0)
def kC_forget_17 : zCd := zo 17 1 (.aload 0) :: zz 18 3 (.invokevirtual 7) jC_beginChange 1 :: zo 21 1 (.aload 0) :: zz 22 3 (.getfield 0) 7 0 :: zz 25 3 (.getfield 0) 6 7 :: zk 28 1 (.iconst 0) (nI 2) :: zo 29 1 (.iload 1) :: zz 30 3 (.invokevirtual 4) jR_removeWith 3 :: zx 33 1 .ireturn 0 :: []
def kC_forget_0 : zCd := zo 0 1 (.iload 1) :: zz 1 3 (.invokestatic 0) jC_isShard 1 :: zx 4 3 (.ifCond .ne 0) 17 :: zx 7 3 .athrow 2 :: kC_forget_17
def mC_forget : zMe := (yX6_forget, cX6_forget, 2, (Option.some Jvm.ClassFile.FieldType.int), 8, 200, kC_forget_0)
def kC_feed_21 : zCd := zo 21 1 (.aload 0) :: zz 22 3 (.getfield 0) 7 4 :: zo 25 1 (.iload 1) :: zz 26 3 (.invokevirtual 5) jS_append 2 :: zx 29 1 .ireturn 0 :: []
def kC_feed_0 : zCd := zo 0 1 (.aload 0) :: zz 1 3 (.getfield 0) 7 4 :: zz 4 3 (.invokevirtual 5) jS_isFull 1 :: zx 7 3 (.ifCond .eq 0) 21 :: zx 10 3 .athrow 1 :: kC_feed_21
def mC_feed : zMe := (yX6_feed, cX6_feed, 2, (Option.some Jvm.ClassFile.FieldType.int), 8, 200, kC_feed_0)
def kC_obey_262 : zCd := zk 262 1 (.iconst 0) 0 :: zx 263 1 .ireturn 1 :: []
def kC_obey_237 : zCd := zo 237 1 (.aload 0) :: zz 238 3 (.getfield 0) 7 6 :: zo 241 1 (.aload 0) :: zz 242 3 (.getfield 0) 7 1 :: zz 245 3 (.invokevirtual 3) jP_derive 2 :: zo 248 1 (.aload 0) :: zz 249 3 (.getfield 0) 7 1 :: zo 252 1 (.aload 0) :: zz 253 3 (.getfield 0) 7 6 :: zo 256 1 (.iload 2) :: zz 257 3 (.invokestatic 0) jK_makeTicks 3 :: zk 260 1 (.iconst 0) 1 :: zx 261 1 .ireturn 1 :: kC_obey_262
def kC_obey_228 : zCd := zo 228 1 (.iload 2) :: zz 229 3 (.invokestatic 0) jC_isTickCount 1 :: zx 232 3 (.ifCond .ne 0) 237 :: zk 235 1 (.iconst 0) 0 :: zx 236 1 .ireturn 1 :: kC_obey_237
def kC_obey_227 : zCd := zx 227 1 .ireturn 1 :: kC_obey_228
def kC_obey_226 : zCd := zk 226 1 (.iconst 0) 0 :: kC_obey_227
def kC_obey_192 : zCd := zo 192 1 (.aload 0) :: zz 193 3 (.getfield 0) 7 1 :: zo 196 1 (.iload 2) :: zz 197 3 (.invokevirtual 6) jT_isPresent 2 :: zx 200 3 (.ifCond .eq 0) 226 :: zo 203 1 (.iload 3) :: zz 204 3 (.invokestatic 0) jC_isWeight 1 :: zx 207 3 (.ifCond .eq 0) 226 :: zo 210 1 (.aload 0) :: zz 211 3 (.getfield 0) 7 1 :: zo 214 1 (.iload 2) :: zo 215 1 (.iload 3) :: zz 216 3 (.invokevirtual 6) jT_putWeight 3 :: zx 219 3 (.ifCond .eq 0) 226 :: zk 222 1 (.iconst 0) 1 :: zx 223 3 (.goto 0) 227 :: kC_obey_226
def kC_obey_191 : zCd := zx 191 1 .ireturn 1 :: kC_obey_192
def kC_obey_190 : zCd := zk 190 1 (.iconst 0) 0 :: kC_obey_191
def kC_obey_163 : zCd := zo 163 1 (.aload 0) :: zz 164 3 (.getfield 0) 7 1 :: zo 167 1 (.iload 2) :: zz 168 3 (.invokevirtual 6) jT_canRecover 2 :: zx 171 3 (.ifCond .eq 0) 190 :: zo 174 1 (.aload 0) :: zz 175 3 (.getfield 0) 7 1 :: zo 178 1 (.iload 2) :: zk 179 1 (.iconst 0) 1 :: zz 180 3 (.invokevirtual 6) jT_putState 3 :: zx 183 3 (.ifCond .eq 0) 190 :: zk 186 1 (.iconst 0) 1 :: zx 187 3 (.goto 0) 191 :: kC_obey_190
def kC_obey_162 : zCd := zx 162 1 .ireturn 1 :: kC_obey_163
def kC_obey_161 : zCd := zk 161 1 (.iconst 0) 0 :: kC_obey_162
def kC_obey_134 : zCd := zo 134 1 (.aload 0) :: zz 135 3 (.getfield 0) 7 1 :: zo 138 1 (.iload 2) :: zz 139 3 (.invokevirtual 6) jT_canFail 2 :: zx 142 3 (.ifCond .eq 0) 161 :: zo 145 1 (.aload 0) :: zz 146 3 (.getfield 0) 7 1 :: zo 149 1 (.iload 2) :: zk 150 1 (.iconst 0) (nI 3) :: zz 151 3 (.invokevirtual 6) jT_putState 3 :: zx 154 3 (.ifCond .eq 0) 161 :: zk 157 1 (.iconst 0) 1 :: zx 158 3 (.goto 0) 162 :: kC_obey_161
def kC_obey_133 : zCd := zx 133 1 .ireturn 1 :: kC_obey_134
def kC_obey_132 : zCd := zk 132 1 (.iconst 0) 0 :: kC_obey_133
def kC_obey_105 : zCd := zo 105 1 (.aload 0) :: zz 106 3 (.getfield 0) 7 1 :: zo 109 1 (.iload 2) :: zz 110 3 (.invokevirtual 6) jT_canDrain 2 :: zx 113 3 (.ifCond .eq 0) 132 :: zo 116 1 (.aload 0) :: zz 117 3 (.getfield 0) 7 1 :: zo 120 1 (.iload 2) :: zk 121 1 (.iconst 0) (nI 2) :: zz 122 3 (.invokevirtual 6) jT_putState 3 :: zx 125 3 (.ifCond .eq 0) 132 :: zk 128 1 (.iconst 0) 1 :: zx 129 3 (.goto 0) 133 :: kC_obey_132
def kC_obey_96 : zCd := zo 96 1 (.aload 0) :: zz 97 3 (.getfield 0) 7 1 :: zo 100 1 (.iload 2) :: zz 101 3 (.invokevirtual 6) jT_tryToEnter 2 :: zx 104 1 .ireturn 1 :: kC_obey_105
def kC_obey_0 : zCd := zo 0 1 (.iload 1) :: zs 1 95 (.tableswitch 0 0 0 #[]) 262 [((nI 100), 105), ((nI 101), 262), ((nI 102), 134), ((nI 103), 262), ((nI 104), 262), ((nI 105), 262), ((nI 106), 262), ((nI 107), 262), ((nI 108), 262), ((nI 109), 262), ((nI 110), 96), ((nI 111), 262), ((nI 112), 262), ((nI 113), 262), ((nI 114), 163), ((nI 115), 262), ((nI 116), 228), ((nI 117), 262), ((nI 118), 262), ((nI 119), 192)] :: kC_obey_96
def mC_obey : zMe := (yX6_obey, cX6_obey, 4, (Option.some Jvm.ClassFile.FieldType.boolean), 6, 159, kC_obey_0)
def kC_perform_106 : zCd := zo 106 1 (.aload 0) :: zz 107 3 (.invokevirtual 7) jC_beginChange 1 :: zo 110 1 (.aload 0) :: zz 111 3 (.getfield 0) 7 0 :: zo 114 1 (.aload 0) :: zz 115 3 (.getfield 0) 7 1 :: zz 118 3 (.invokevirtual 6) jT_copyFrom 2 :: zo 121 1 (.aload 0) :: zz 122 3 (.getfield 0) 7 4 :: zz 125 3 (.getfield 0) 5 6 :: zx 128 1 .ireturn 0 :: []
def kC_perform_100 : zCd := zk 100 3 (.iinc 2 0) 1 :: zx 103 3 (.goto 0) 38 :: kC_perform_106
def kC_perform_38 : zCd := zo 38 1 (.iload 2) :: zo 39 1 (.aload 0) :: zz 40 3 (.getfield 0) 7 4 :: zz 43 3 (.getfield 0) 5 6 :: zx 46 3 (.if_icmp .ge 0) 106 :: zo 49 1 (.iload 2) :: zk 50 2 (.iconst 0) (nI 20) :: zx 52 3 (.if_icmp .ge 0) 106 :: zo 55 1 (.aload 0) :: zo 56 1 (.aload 0) :: zz 57 3 (.getfield 0) 7 4 :: zz 60 3 (.getfield 0) 5 3 :: zo 63 1 (.iload 2) :: zo 64 1 .iaload :: zo 65 1 (.aload 0) :: zz 66 3 (.getfield 0) 7 4 :: zz 69 3 (.getfield 0) 5 4 :: zo 72 1 (.iload 2) :: zo 73 1 .iaload :: zo 74 1 (.aload 0) :: zz 75 3 (.getfield 0) 7 4 :: zz 78 3 (.getfield 0) 5 5 :: zo 81 1 (.iload 2) :: zo 82 1 .iaload :: zz 83 3 (.invokevirtual 7) jC_obey 4 :: zx 86 3 (.ifCond .ne 0) 100 :: zx 89 3 .athrow 5 :: kC_perform_100
def kC_perform_25 : zCd := zo 25 1 (.aload 0) :: zz 26 3 (.getfield 0) 7 1 :: zo 29 1 (.aload 0) :: zz 30 3 (.getfield 0) 7 0 :: zz 33 3 (.invokevirtual 6) jT_copyFrom 2 :: zk 36 1 (.iconst 0) 0 :: zo 37 1 (.istore 2) :: kC_perform_38
def kC_perform_0 : zCd := zo 0 1 (.aload 0) :: zz 1 3 (.getfield 0) 7 4 :: zz 4 3 (.invokevirtual 5) jS_parse 1 :: zo 7 1 (.istore 1) :: zo 8 1 (.aload 0) :: zz 9 3 (.getfield 0) 7 4 :: zz 12 3 (.invokevirtual 5) jS_empty 1 :: zo 15 1 (.iload 1) :: zk 16 1 (.iconst 0) (-1) :: zx 17 3 (.if_icmp .eq 0) 25 :: zk 20 2 (.iconst 0) (-100) :: zo 22 1 (.iload 1) :: zo 23 1 .isub :: zx 24 1 .ireturn 0 :: kC_perform_25
def mC_perform : zMe := (yX6_perform, cX6_perform, 3, (Option.some Jvm.ClassFile.FieldType.int), 8, 200, kC_perform_0)
def kC_undo_21 : zCd := zo 21 1 (.aload 0) :: zz 22 3 (.getfield 0) 7 3 :: zo 25 1 (.aload 0) :: zz 26 3 (.getfield 0) 7 0 :: zz 29 3 (.invokevirtual 2) jH_takeBack 2 :: zo 32 1 (.aload 0) :: zk 33 1 (.iconst 0) 1 :: zz 34 3 (.putfield 0) 7 7 :: zo 37 1 (.aload 0) :: zz 38 3 (.getfield 0) 7 3 :: zz 41 3 (.getfield 0) 2 2 :: zx 44 1 .ireturn 0 :: []
def kC_undo_0 : zCd := zo 0 1 (.aload 0) :: zz 1 3 (.getfield 0) 7 3 :: zz 4 3 (.getfield 0) 2 2 :: zx 7 3 (.ifCond .ne 0) 21 :: zx 10 3 .athrow 1 :: kC_undo_21
def mC_undo : zMe := (yX6_undo, cX6_undo, 1, (Option.some Jvm.ClassFile.FieldType.int), 8, 200, kC_undo_0)
def kC_save_0 : zCd := zo 0 1 (.aload 0) :: zz 1 3 (.getfield 0) 7 2 :: zo 4 1 (.aload 0) :: zz 5 3 (.getfield 0) 7 0 :: zz 8 3 (.invokevirtual 6) jT_copyFrom 2 :: zo 11 1 (.aload 0) :: zk 12 1 (.iconst 0) 1 :: zz 13 3 (.putfield 0) 7 8 :: zo 16 1 (.aload 0) :: zz 17 3 (.getfield 0) 7 0 :: zz 20 3 (.invokevirtual 6) jT_presentNodes 1 :: zx 23 1 .ireturn 0 :: []
def mC_save : zMe := (yX6_save, cX6_save, 1, (Option.some Jvm.ClassFile.FieldType.int), 3, 82, kC_save_0)
def kC_restore_18 : zCd := zo 18 1 (.aload 0) :: zz 19 3 (.getfield 0) 7 0 :: zo 22 1 (.aload 0) :: zz 23 3 (.getfield 0) 7 2 :: zz 26 3 (.invokevirtual 6) jT_copyFrom 2 :: zo 29 1 (.aload 0) :: zz 30 3 (.getfield 0) 7 3 :: zz 33 3 (.invokevirtual 2) jH_clear 1 :: zo 36 1 (.aload 0) :: zk 37 1 (.iconst 0) 1 :: zz 38 3 (.putfield 0) 7 7 :: zo 41 1 (.aload 0) :: zz 42 3 (.getfield 0) 7 0 :: zz 45 3 (.invokevirtual 6) jT_presentNodes 1 :: zx 48 1 .ireturn 0 :: []
def kC_restore_0 : zCd := zo 0 1 (.aload 0) :: zz 1 3 (.getfield 0) 7 8 :: zx 4 3 (.ifCond .ne 0) 18 :: zx 7 3 .athrow 1 :: kC_restore_18
def mC_restore : zMe := (yX6_restore, cX6_restore, 1, (Option.some Jvm.ClassFile.FieldType.int), 8, 200, kC_restore_0)
def kM_placeOf_0 : zCd := zo 0 1 (.iload 0) :: zk 1 2 (.iconst 0) (-1640531527) :: zo 3 1 .imul :: zo 4 1 (.istore 1) :: zo 5 1 (.iload 1) :: zo 6 1 (.iload 1) :: zk 7 2 (.iconst 0) (nI 15) :: zo 9 1 .iushr :: zo 10 1 .ixor :: zo 11 1 (.istore 1) :: zo 12 1 (.iload 1) :: zk 13 2 (.iconst 0) (-2048144789) :: zo 15 1 .imul :: zo 16 1 (.istore 1) :: zo 17 1 (.iload 1) :: zo 18 1 (.iload 1) :: zk 19 2 (.iconst 0) (nI 13) :: zo 21 1 .iushr :: zo 22 1 .ixor :: zo 23 1 (.istore 1) :: zo 24 1 (.iload 1) :: zk 25 3 (.iconst 0) (nI 1023) :: zo 28 1 .iand :: zx 29 1 .ireturn 0 :: []
def mM_placeOf : zMe := (yX7_placeOf, cX7_placeOf, 2, (Option.some Jvm.ClassFile.FieldType.int), 0, 0, kM_placeOf_0)
def kM_init_219 : zCd := zo 219 1 .return_ :: []
def kM_init_164 : zCd := zo 164 1 (.iload 1) :: zk 165 2 (.iconst 0) (nI 32) :: zx 167 3 (.if_icmp .ge 0) 219 :: zo 170 1 (.aload 0) :: zz 171 3 (.getfield 0) 8 0 :: zk 174 2 (.iconst 0) (nI 28) :: zo 176 1 (.iload 1) :: zo 177 1 .iadd :: zk 178 1 (.iconst 0) (-1) :: zo 179 1 .iastore :: zo 180 1 (.aload 0) :: zz 181 3 (.getfield 0) 8 8 :: zo 184 1 (.iload 1) :: zk 185 3 (.iconst 0) (nI 1000) :: zo 188 1 (.iload 1) :: zo 189 1 .iadd :: zz 190 3 (.invokestatic 0) jM_placeOf 1 :: zo 193 1 .iastore :: zo 194 1 (.aload 0) :: zz 195 3 (.getfield 0) 8 7 :: zo 198 1 (.iload 1) :: zk 199 1 (.iconst 0) 1 :: zk 200 3 (.iconst 0) (nI 2000) :: zo 203 1 (.iload 1) :: zo 204 1 .iadd :: zz 205 3 (.invokestatic 0) jM_placeOf 1 :: zk 208 2 (.iconst 0) (nI 9) :: zo 210 1 .irem :: zo 211 1 .iadd :: zo 212 1 .iastore :: zk 213 3 (.iinc 1 0) 1 :: zx 216 3 (.goto 0) 164 :: kM_init_219
def kM_init_0 : zCd := zo 0 1 (.aload 0) :: zo 1 3 .monitorexit :: zo 4 1 (.aload 0) :: zk 5 3 (.iconst 0) (nI 340) :: zx 8 2 (.newarray .int) 0 :: zz 10 3 (.putfield 1) 8 0 :: zo 13 1 (.aload 0) :: zk 14 3 (.iconst 0) (nI 340) :: zx 17 2 (.newarray .int) 0 :: zz 19 3 (.putfield 1) 8 1 :: zo 22 1 (.aload 0) :: zk 23 3 (.iconst 0) (nI 340) :: zx 26 2 (.newarray .int) 0 :: zz 28 3 (.putfield 1) 8 2 :: zo 31 1 (.aload 0) :: zk 32 3 (.iconst 0) (nI 2040) :: zx 35 2 (.newarray .int) 0 :: zz 37 3 (.putfield 1) 8 4 :: zo 40 1 (.aload 0) :: zk 41 2 (.iconst 0) (nI 32) :: zx 43 2 (.newarray .int) 0 :: zz 45 3 (.putfield 1) 8 7 :: zo 48 1 (.aload 0) :: zk 49 2 (.iconst 0) (nI 32) :: zx 51 2 (.newarray .int) 0 :: zz 53 3 (.putfield 1) 8 8 :: zo 56 1 (.aload 0) :: zk 57 3 (.iconst 0) (nI 160) :: zx 60 2 (.newarray .int) 0 :: zz 62 3 (.putfield 1) 8 10 :: zo 65 1 (.aload 0) :: zk 66 3 (.iconst 0) (nI 160) :: zx 69 2 (.newarray .int) 0 :: zz 71 3 (.putfield 1) 8 11 :: zo 74 1 (.aload 0) :: zk 75 3 (.iconst 0) (nI 160) :: zx 78 2 (.newarray .int) 0 :: zz 80 3 (.putfield 1) 8 12 :: zo 83 1 (.aload 0) :: zk 84 2 (.iconst 0) (nI 8) :: zx 86 2 (.newarray .int) 0 :: zz 88 3 (.putfield 1) 8 13 :: zo 91 1 (.aload 0) :: zk 92 2 (.iconst 0) (nI 32) :: zx 94 2 (.newarray .int) 0 :: zz 96 3 (.putfield 1) 8 14 :: zo 99 1 (.aload 0) :: zk 100 2 (.iconst 0) (nI 32) :: zx 102 2 (.newarray .int) 0 :: zz 104 3 (.putfield 1) 8 15 :: zo 107 1 (.aload 0) :: zk 108 2 (.iconst 0) (nI 8) :: zx 110 2 (.newarray .int) 0 :: zz 112 3 (.putfield 1) 8 16 :: zo 115 1 (.aload 0) :: zk 116 2 (.iconst 0) (nI 32) :: zx 118 2 (.newarray .int) 0 :: zz 120 3 (.putfield 1) 8 17 :: zo 123 1 (.aload 0) :: zk 124 2 (.iconst 0) (nI 60) :: zx 126 2 (.newarray .int) 0 :: zz 128 3 (.putfield 1) 8 19 :: zo 131 1 (.aload 0) :: zk 132 3 (.iconst 0) (nI 180) :: zx 135 2 (.newarray .int) 0 :: zz 137 3 (.putfield 1) 8 23 :: zo 140 1 (.aload 0) :: zz 141 3 (.getfield 0) 8 0 :: zk 144 1 (.iconst 0) 0 :: zk 145 2 (.iconst 0) (nI 25) :: zo 147 1 .iastore :: zo 148 1 (.aload 0) :: zz 149 3 (.getfield 0) 8 0 :: zk 152 1 (.iconst 0) 1 :: zk 153 1 (.iconst 0) (nI 3) :: zo 154 1 .iastore :: zo 155 1 (.aload 0) :: zz 156 3 (.getfield 0) 8 0 :: zk 159 1 (.iconst 0) (nI 2) :: zk 160 1 (.iconst 0) (nI 5) :: zo 161 1 .iastore :: zk 162 1 (.iconst 0) 0 :: zo 163 1 (.istore 1) :: kM_init_164
def mM_init : zMe := (yX7_init, cX7_init, 2, none, 1, 40, kM_init_0)
def kM_thrown_0 : zCd := zo 0 1 (.aload 0) :: zz 1 3 (.getfield 0) 8 6 :: zx 4 1 .ireturn 0 :: []
def mM_thrown : zMe := (yX7_thrown, cX7_thrown, 1, (Option.some Jvm.ClassFile.FieldType.int), 0, 0, kM_thrown_0)
def kM_in_15 : zCd := zx 15 1 .ireturn 1 :: []
def kM_in_14 : zCd := zk 14 1 (.iconst 0) 0 :: kM_in_15
def kM_in_0 : zCd := zo 0 1 (.iload 0) :: zo 1 1 (.iload 1) :: zx 2 3 (.if_icmp .lt 0) 14 :: zo 5 1 (.iload 0) :: zo 6 1 (.iload 2) :: zx 7 3 (.if_icmp .gt 0) 14 :: zk 10 1 (.iconst 0) 1 :: zx 11 3 (.goto 0) 15 :: kM_in_14
def mM_in : zMe := (yX7_in, cX7_in, 3, (Option.some Jvm.ClassFile.FieldType.boolean), 0, 0, kM_in_0)
def kM_refuse_0 : zCd := zo 0 1 (.aload 0) :: zo 1 1 (.iload 1) :: zz 2 3 (.putfield 0) 8 6 :: zk 5 1 (.iconst 0) 0 :: zx 6 1 .ireturn 0 :: []
def mM_refuse : zMe := (yX7_refuse, cX7_refuse, 2, (Option.some Jvm.ClassFile.FieldType.int), 0, 0, kM_refuse_0)
def kM_isNode_0 : zCd := zo 0 1 (.iload 0) :: zk 1 1 (.iconst 0) 0 :: zk 2 2 (.iconst 0) (nI 7) :: zz 4 3 (.invokestatic 0) jM_in 3 :: zx 7 1 .ireturn 1 :: []
def mM_isNode : zMe := (yX7_isNode, cX7_isNode, 1, (Option.some Jvm.ClassFile.FieldType.boolean), 1, 22, kM_isNode_0)
def kM_isThere_24 : zCd := zx 24 1 .ireturn 1 :: []
def kM_isThere_23 : zCd := zk 23 1 (.iconst 0) 0 :: kM_isThere_24
def kM_isThere_0 : zCd := zo 0 1 (.iload 1) :: zz 1 3 (.invokestatic 0) jM_isNode 1 :: zx 4 3 (.ifCond .eq 0) 23 :: zo 7 1 (.aload 0) :: zz 8 3 (.getfield 0) 8 0 :: zk 11 2 (.iconst 0) (nI 12) :: zo 13 1 (.iload 1) :: zo 14 1 .iadd :: zo 15 1 .iaload :: zx 16 3 (.ifCond .eq 0) 23 :: zk 19 1 (.iconst 0) 1 :: zx 20 3 (.goto 0) 24 :: kM_isThere_23
def mM_isThere : zMe := (yX7_isThere, cX7_isThere, 2, (Option.some Jvm.ClassFile.FieldType.boolean), 2, 42, kM_isThere_0)
def kM_is_18 : zCd := zx 18 1 .ireturn 1 :: []
def kM_is_17 : zCd := zk 17 1 (.iconst 0) 0 :: kM_is_18
def kM_is_0 : zCd := zo 0 1 (.aload 0) :: zz 1 3 (.getfield 0) 8 0 :: zk 4 2 (.iconst 0) (nI 12) :: zo 6 1 (.iload 1) :: zo 7 1 .iadd :: zo 8 1 .iaload :: zo 9 1 (.iload 2) :: zx 10 3 (.if_icmp .ne 0) 17 :: zk 13 1 (.iconst 0) 1 :: zx 14 3 (.goto 0) 18 :: kM_is_17
def mM_is : zMe := (yX7_is, cX7_is, 3, (Option.some Jvm.ClassFile.FieldType.boolean), 0, 0, kM_is_0)
def kM_keepAs_83 : zCd := zo 83 1 (.aload 0) :: zo 84 1 .dup :: zz 85 3 (.getfield 0) 8 5 :: zk 88 1 (.iconst 0) 1 :: zo 89 1 .iadd :: zz 90 3 (.putfield 0) 8 5 :: zo 93 1 .return_ :: []
def kM_keepAs_52 : zCd := zo 52 1 (.iload 2) :: zk 53 3 (.iconst 0) (nI 340) :: zx 56 3 (.if_icmp .ge 0) 83 :: zo 59 1 (.aload 0) :: zz 60 3 (.getfield 0) 8 4 :: zk 63 3 (.iconst 0) (nI 340) :: zo 66 1 (.aload 0) :: zz 67 3 (.getfield 0) 8 5 :: zo 70 1 .imul :: zo 71 1 (.iload 2) :: zo 72 1 .iadd :: zo 73 1 (.aload 1) :: zo 74 1 (.iload 2) :: zo 75 1 .iaload :: zo 76 1 .iastore :: zk 77 3 (.iinc 2 0) 1 :: zx 80 3 (.goto 0) 52 :: kM_keepAs_83
def kM_keepAs_50 : zCd := zk 50 1 (.iconst 0) 0 :: zo 51 1 (.istore 2) :: kM_keepAs_52
def kM_keepAs_40 : zCd := zo 40 1 (.aload 0) :: zo 41 1 .dup :: zz 42 3 (.getfield 0) 8 5 :: zk 45 1 (.iconst 0) 1 :: zo 46 1 .isub :: zz 47 3 (.putfield 0) 8 5 :: kM_keepAs_50
def kM_keepAs_11 : zCd := zo 11 1 (.iload 2) :: zk 12 3 (.iconst 0) (nI 1700) :: zx 15 3 (.if_icmp .ge 0) 40 :: zo 18 1 (.aload 0) :: zz 19 3 (.getfield 0) 8 4 :: zo 22 1 (.iload 2) :: zo 23 1 (.aload 0) :: zz 24 3 (.getfield 0) 8 4 :: zo 27 1 (.iload 2) :: zk 28 3 (.iconst 0) (nI 340) :: zo 31 1 .iadd :: zo 32 1 .iaload :: zo 33 1 .iastore :: zk 34 3 (.iinc 2 0) 1 :: zx 37 3 (.goto 0) 11 :: kM_keepAs_40
def kM_keepAs_0 : zCd := zo 0 1 (.aload 0) :: zz 1 3 (.getfield 0) 8 5 :: zk 4 2 (.iconst 0) (nI 6) :: zx 6 3 (.if_icmp .ne 0) 50 :: zk 9 1 (.iconst 0) 0 :: zo 10 1 (.istore 2) :: kM_keepAs_11
def mM_keepAs : zMe := (yX7_keepAs, cX7_keepAs, 3, none, 0, 0, kM_keepAs_0)
def kM_putAside_27 : zCd := zo 27 1 .return_ :: []
def kM_putAside_2 : zCd := zo 2 1 (.iload 1) :: zk 3 3 (.iconst 0) (nI 340) :: zx 6 3 (.if_icmp .ge 0) 27 :: zo 9 1 (.aload 0) :: zz 10 3 (.getfield 0) 8 2 :: zo 13 1 (.iload 1) :: zo 14 1 (.aload 0) :: zz 15 3 (.getfield 0) 8 0 :: zo 18 1 (.iload 1) :: zo 19 1 .iaload :: zo 20 1 .iastore :: zk 21 3 (.iinc 1 0) 1 :: zx 24 3 (.goto 0) 2 :: kM_putAside_27
def kM_putAside_0 : zCd := zk 0 1 (.iconst 0) 0 :: zo 1 1 (.istore 1) :: kM_putAside_2
def mM_putAside : zMe := (yX7_putAside, cX7_putAside, 2, none, 0, 0, kM_putAside_0)
def kM_takeBack_27 : zCd := zo 27 1 .return_ :: []
def kM_takeBack_2 : zCd := zo 2 1 (.iload 1) :: zk 3 3 (.iconst 0) (nI 340) :: zx 6 3 (.if_icmp .ge 0) 27 :: zo 9 1 (.aload 0) :: zz 10 3 (.getfield 0) 8 0 :: zo 13 1 (.iload 1) :: zo 14 1 (.aload 0) :: zz 15 3 (.getfield 0) 8 2 :: zo 18 1 (.iload 1) :: zo 19 1 .iaload :: zo 20 1 .iastore :: zk 21 3 (.iinc 1 0) 1 :: zx 24 3 (.goto 0) 2 :: kM_takeBack_27
def kM_takeBack_0 : zCd := zk 0 1 (.iconst 0) 0 :: zo 1 1 (.istore 1) :: kM_takeBack_2
def mM_takeBack : zMe := (yX7_takeBack, cX7_takeBack, 2, none, 0, 0, kM_takeBack_0)
def kM_freeNode_23 : zCd := zo 23 1 (.iload 1) :: zx 24 1 .ireturn 0 :: []
def kM_freeNode_2 : zCd := zo 2 1 (.iload 1) :: zk 3 2 (.iconst 0) (nI 8) :: zx 5 3 (.if_icmp .ge 0) 23 :: zo 8 1 (.aload 0) :: zo 9 1 (.iload 1) :: zk 10 1 (.iconst 0) 0 :: zz 11 3 (.invokevirtual 8) jM_is 3 :: zx 14 3 (.ifCond .ne 0) 23 :: zk 17 3 (.iinc 1 0) 1 :: zx 20 3 (.goto 0) 2 :: kM_freeNode_23
def kM_freeNode_0 : zCd := zk 0 1 (.iconst 0) 0 :: zo 1 1 (.istore 1) :: kM_freeNode_2
def mM_freeNode : zMe := (yX7_freeNode, cX7_freeNode, 2, (Option.some Jvm.ClassFile.FieldType.int), 1, 22, kM_freeNode_0)
def kM_adds_24 : zCd := zo 24 1 (.aload 0) :: zz 25 3 (.getfield 0) 8 0 :: zk 28 2 (.iconst 0) (nI 12) :: zo 30 1 (.iload 2) :: zo 31 1 .iadd :: zk 32 1 (.iconst 0) 1 :: zo 33 1 .iastore :: zo 34 1 (.aload 0) :: zz 35 3 (.getfield 0) 8 0 :: zk 38 2 (.iconst 0) (nI 20) :: zo 40 1 (.iload 2) :: zo 41 1 .iadd :: zo 42 1 (.iload 1) :: zo 43 1 .iastore :: zk 44 1 (.iconst 0) 0 :: zx 45 1 .ireturn 0 :: []
def kM_adds_11 : zCd := zo 11 1 (.aload 0) :: zz 12 3 (.invokevirtual 8) jM_freeNode 1 :: zo 15 1 (.istore 2) :: zo 16 1 (.iload 2) :: zk 17 2 (.iconst 0) (nI 8) :: zx 19 3 (.if_icmp .ne 0) 24 :: zk 22 1 (.iconst 0) (nI 2) :: zx 23 1 .ireturn 0 :: kM_adds_24
def kM_adds_0 : zCd := zo 0 1 (.iload 1) :: zk 1 1 (.iconst 0) 1 :: zk 2 1 (.iconst 0) (nI 5) :: zz 3 3 (.invokestatic 0) jM_in 3 :: zx 6 3 (.ifCond .ne 0) 11 :: zk 9 1 (.iconst 0) 1 :: zx 10 1 .ireturn 0 :: kM_adds_11
def mM_adds : zMe := (yX7_adds, cX7_adds, 3, (Option.some Jvm.ClassFile.FieldType.int), 2, 43, kM_adds_0)
def kM_drains_31 : zCd := zo 31 1 (.aload 0) :: zz 32 3 (.getfield 0) 8 0 :: zk 35 2 (.iconst 0) (nI 12) :: zo 37 1 (.iload 1) :: zo 38 1 .iadd :: zk 39 1 (.iconst 0) (nI 2) :: zo 40 1 .iastore :: zk 41 1 (.iconst 0) 0 :: zx 42 1 .ireturn 0 :: []
def kM_drains_30 : zCd := zx 30 1 .ireturn 0 :: kM_drains_31
def kM_drains_29 : zCd := zk 29 1 (.iconst 0) 1 :: kM_drains_30
def kM_drains_17 : zCd := zo 17 1 (.aload 0) :: zo 18 1 (.iload 1) :: zz 19 3 (.invokevirtual 8) jM_isThere 2 :: zx 22 3 (.ifCond .eq 0) 29 :: zk 25 1 (.iconst 0) (nI 2) :: zx 26 3 (.goto 0) 30 :: kM_drains_29
def kM_drains_0 : zCd := zo 0 1 (.aload 0) :: zo 1 1 (.iload 1) :: zz 2 3 (.invokevirtual 8) jM_isThere 2 :: zx 5 3 (.ifCond .eq 0) 17 :: zo 8 1 (.aload 0) :: zo 9 1 (.iload 1) :: zk 10 1 (.iconst 0) 1 :: zz 11 3 (.invokevirtual 8) jM_is 3 :: zx 14 3 (.ifCond .ne 0) 31 :: kM_drains_17
def mM_drains : zMe := (yX7_drains, cX7_drains, 2, (Option.some Jvm.ClassFile.FieldType.int), 3, 63, kM_drains_0)
def kM_fails_31 : zCd := zo 31 1 (.aload 0) :: zz 32 3 (.getfield 0) 8 0 :: zk 35 2 (.iconst 0) (nI 12) :: zo 37 1 (.iload 1) :: zo 38 1 .iadd :: zk 39 1 (.iconst 0) (nI 3) :: zo 40 1 .iastore :: zk 41 1 (.iconst 0) 0 :: zx 42 1 .ireturn 0 :: []
def kM_fails_30 : zCd := zx 30 1 .ireturn 0 :: kM_fails_31
def kM_fails_29 : zCd := zk 29 1 (.iconst 0) 1 :: kM_fails_30
def kM_fails_17 : zCd := zo 17 1 (.aload 0) :: zo 18 1 (.iload 1) :: zz 19 3 (.invokevirtual 8) jM_isThere 2 :: zx 22 3 (.ifCond .eq 0) 29 :: zk 25 1 (.iconst 0) (nI 2) :: zx 26 3 (.goto 0) 30 :: kM_fails_29
def kM_fails_0 : zCd := zo 0 1 (.aload 0) :: zo 1 1 (.iload 1) :: zz 2 3 (.invokevirtual 8) jM_isThere 2 :: zx 5 3 (.ifCond .eq 0) 17 :: zo 8 1 (.aload 0) :: zo 9 1 (.iload 1) :: zk 10 1 (.iconst 0) (nI 3) :: zz 11 3 (.invokevirtual 8) jM_is 3 :: zx 14 3 (.ifCond .eq 0) 31 :: kM_fails_17
def mM_fails : zMe := (yX7_fails, cX7_fails, 2, (Option.some Jvm.ClassFile.FieldType.int), 3, 63, kM_fails_0)
def kM_recovers_31 : zCd := zo 31 1 (.aload 0) :: zz 32 3 (.getfield 0) 8 0 :: zk 35 2 (.iconst 0) (nI 12) :: zo 37 1 (.iload 1) :: zo 38 1 .iadd :: zk 39 1 (.iconst 0) 1 :: zo 40 1 .iastore :: zk 41 1 (.iconst 0) 0 :: zx 42 1 .ireturn 0 :: []
def kM_recovers_30 : zCd := zx 30 1 .ireturn 0 :: kM_recovers_31
def kM_recovers_29 : zCd := zk 29 1 (.iconst 0) 1 :: kM_recovers_30
def kM_recovers_17 : zCd := zo 17 1 (.aload 0) :: zo 18 1 (.iload 1) :: zz 19 3 (.invokevirtual 8) jM_isThere 2 :: zx 22 3 (.ifCond .eq 0) 29 :: zk 25 1 (.iconst 0) (nI 2) :: zx 26 3 (.goto 0) 30 :: kM_recovers_29
def kM_recovers_0 : zCd := zo 0 1 (.aload 0) :: zo 1 1 (.iload 1) :: zz 2 3 (.invokevirtual 8) jM_isThere 2 :: zx 5 3 (.ifCond .eq 0) 17 :: zo 8 1 (.aload 0) :: zo 9 1 (.iload 1) :: zk 10 1 (.iconst 0) 1 :: zz 11 3 (.invokevirtual 8) jM_is 3 :: zx 14 3 (.ifCond .eq 0) 31 :: kM_recovers_17
def mM_recovers : zMe := (yX7_recovers, cX7_recovers, 2, (Option.some Jvm.ClassFile.FieldType.int), 3, 63, kM_recovers_0)
def kM_weighs_31 : zCd := zo 31 1 (.aload 0) :: zz 32 3 (.getfield 0) 8 0 :: zk 35 2 (.iconst 0) (nI 20) :: zo 37 1 (.iload 1) :: zo 38 1 .iadd :: zo 39 1 (.iload 2) :: zo 40 1 .iastore :: zk 41 1 (.iconst 0) 0 :: zx 42 1 .ireturn 0 :: []
def kM_weighs_30 : zCd := zx 30 1 .ireturn 0 :: kM_weighs_31
def kM_weighs_29 : zCd := zk 29 1 (.iconst 0) 1 :: kM_weighs_30
def kM_weighs_17 : zCd := zo 17 1 (.aload 0) :: zo 18 1 (.iload 1) :: zz 19 3 (.invokevirtual 8) jM_isThere 2 :: zx 22 3 (.ifCond .eq 0) 29 :: zk 25 1 (.iconst 0) (nI 2) :: zx 26 3 (.goto 0) 30 :: kM_weighs_29
def kM_weighs_0 : zCd := zo 0 1 (.aload 0) :: zo 1 1 (.iload 1) :: zz 2 3 (.invokevirtual 8) jM_isThere 2 :: zx 5 3 (.ifCond .eq 0) 17 :: zo 8 1 (.iload 2) :: zk 9 1 (.iconst 0) 1 :: zk 10 1 (.iconst 0) (nI 5) :: zz 11 3 (.invokestatic 0) jM_in 3 :: zx 14 3 (.ifCond .ne 0) 31 :: kM_weighs_17
def mM_weighs : zMe := (yX7_weighs, cX7_weighs, 3, (Option.some Jvm.ClassFile.FieldType.int), 3, 63, kM_weighs_0)
def kM_putPoint_78 : zCd := zo 78 1 (.aload 0) :: zz 79 3 (.getfield 0) 8 10 :: zo 82 2 (.iload 4) :: zo 84 1 (.iload 1) :: zo 85 1 .iastore :: zo 86 1 (.aload 0) :: zz 87 3 (.getfield 0) 8 11 :: zo 90 2 (.iload 4) :: zo 92 1 (.iload 2) :: zo 93 1 .iastore :: zo 94 1 (.aload 0) :: zz 95 3 (.getfield 0) 8 12 :: zo 98 2 (.iload 4) :: zo 100 1 (.iload 3) :: zo 101 1 .iastore :: zo 102 1 (.aload 0) :: zo 103 1 .dup :: zz 104 3 (.getfield 0) 8 9 :: zk 107 1 (.iconst 0) 1 :: zo 108 1 .iadd :: zz 109 3 (.putfield 0) 8 9 :: zo 112 1 .return_ :: []
def kM_putPoint_6 : zCd := zo 6 2 (.iload 4) :: zx 8 3 (.ifCond .le 0) 78 :: zo 11 1 (.aload 0) :: zz 12 3 (.getfield 0) 8 10 :: zo 15 2 (.iload 4) :: zk 17 1 (.iconst 0) 1 :: zo 18 1 .isub :: zo 19 1 .iaload :: zo 20 1 (.iload 1) :: zx 21 3 (.if_icmp .le 0) 78 :: zo 24 1 (.aload 0) :: zz 25 3 (.getfield 0) 8 10 :: zo 28 2 (.iload 4) :: zo 30 1 (.aload 0) :: zz 31 3 (.getfield 0) 8 10 :: zo 34 2 (.iload 4) :: zk 36 1 (.iconst 0) 1 :: zo 37 1 .isub :: zo 38 1 .iaload :: zo 39 1 .iastore :: zo 40 1 (.aload 0) :: zz 41 3 (.getfield 0) 8 11 :: zo 44 2 (.iload 4) :: zo 46 1 (.aload 0) :: zz 47 3 (.getfield 0) 8 11 :: zo 50 2 (.iload 4) :: zk 52 1 (.iconst 0) 1 :: zo 53 1 .isub :: zo 54 1 .iaload :: zo 55 1 .iastore :: zo 56 1 (.aload 0) :: zz 57 3 (.getfield 0) 8 12 :: zo 60 2 (.iload 4) :: zo 62 1 (.aload 0) :: zz 63 3 (.getfield 0) 8 12 :: zo 66 2 (.iload 4) :: zk 68 1 (.iconst 0) 1 :: zo 69 1 .isub :: zo 70 1 .iaload :: zo 71 1 .iastore :: zk 72 3 (.iinc 4 0) (-1) :: zx 75 3 (.goto 0) 6 :: kM_putPoint_78
def kM_putPoint_0 : zCd := zo 0 1 (.aload 0) :: zz 1 3 (.getfield 0) 8 9 :: zo 4 2 (.istore 4) :: kM_putPoint_6
def mM_putPoint : zMe := (yX7_putPoint, cX7_putPoint, 5, none, 0, 0, kM_putPoint_0)
def kM_layRing_66 : zCd := zo 66 1 .return_ :: []
def kM_layRing_60 : zCd := zk 60 3 (.iinc 1 0) 1 :: zx 63 3 (.goto 0) 7 :: kM_layRing_66
def kM_layRing_15 : zCd := zo 15 1 (.iload 2) :: zk 16 1 (.iconst 0) (nI 4) :: zo 17 1 (.aload 0) :: zz 18 3 (.getfield 0) 8 0 :: zk 21 2 (.iconst 0) (nI 20) :: zo 23 1 (.iload 1) :: zo 24 1 .iadd :: zo 25 1 .iaload :: zo 26 1 .imul :: zx 27 3 (.if_icmp .ge 0) 60 :: zo 30 1 (.aload 0) :: zo 31 1 (.iload 1) :: zk 32 1 (.iconst 0) 1 :: zz 33 3 (.invokevirtual 8) jM_is 3 :: zx 36 3 (.ifCond .eq 0) 60 :: zo 39 1 (.aload 0) :: zk 40 2 (.iconst 0) (nI 64) :: zo 42 1 (.iload 1) :: zo 43 1 .imul :: zo 44 1 (.iload 2) :: zo 45 1 .iadd :: zz 46 3 (.invokestatic 0) jM_placeOf 1 :: zo 49 1 (.iload 1) :: zo 50 1 (.iload 2) :: zz 51 3 (.invokevirtual 8) jM_putPoint 4 :: zk 54 3 (.iinc 2 0) 1 :: zx 57 3 (.goto 0) 15 :: kM_layRing_60
def kM_layRing_7 : zCd := zo 7 1 (.iload 1) :: zk 8 2 (.iconst 0) (nI 8) :: zx 10 3 (.if_icmp .ge 0) 66 :: zk 13 1 (.iconst 0) 0 :: zo 14 1 (.istore 2) :: kM_layRing_15
def kM_layRing_0 : zCd := zo 0 1 (.aload 0) :: zk 1 1 (.iconst 0) 0 :: zz 2 3 (.putfield 0) 8 9 :: zk 5 1 (.iconst 0) 0 :: zo 6 1 (.istore 1) :: kM_layRing_7
def mM_layRing : zMe := (yX7_layRing, cX7_layRing, 3, none, 1, 24, kM_layRing_0)
def kM_successorOf_39 : zCd := zx 39 1 .ireturn 0 :: []
def kM_successorOf_38 : zCd := zo 38 1 (.iload 2) :: kM_successorOf_39
def kM_successorOf_26 : zCd := zo 26 1 (.iload 2) :: zo 27 1 (.aload 0) :: zz 28 3 (.getfield 0) 8 9 :: zx 31 3 (.if_icmp .ne 0) 38 :: zk 34 1 (.iconst 0) 0 :: zx 35 3 (.goto 0) 39 :: kM_successorOf_38
def kM_successorOf_2 : zCd := zo 2 1 (.iload 2) :: zo 3 1 (.aload 0) :: zz 4 3 (.getfield 0) 8 9 :: zx 7 3 (.if_icmp .ge 0) 26 :: zo 10 1 (.aload 0) :: zz 11 3 (.getfield 0) 8 10 :: zo 14 1 (.iload 2) :: zo 15 1 .iaload :: zo 16 1 (.iload 1) :: zx 17 3 (.if_icmp .ge 0) 26 :: zk 20 3 (.iinc 2 0) 1 :: zx 23 3 (.goto 0) 2 :: kM_successorOf_26
def kM_successorOf_0 : zCd := zk 0 1 (.iconst 0) 0 :: zo 1 1 (.istore 2) :: kM_successorOf_2
def mM_successorOf : zMe := (yX7_successorOf, cX7_successorOf, 3, (Option.some Jvm.ClassFile.FieldType.int), 0, 0, kM_successorOf_0)
def kM_layTargets_248 : zCd := zo 248 1 .return_ :: []
def kM_layTargets_242 : zCd := zk 242 3 (.iinc 2 0) 1 :: zx 245 3 (.goto 0) 116 :: kM_layTargets_248
def kM_layTargets_236 : zCd := zk 236 3 (.iinc 4 0) 1 :: zx 239 3 (.goto 0) 150 :: kM_layTargets_242
def kM_layTargets_223 : zCd := zo 223 1 (.aload 0) :: zz 224 3 (.getfield 0) 8 15 :: zo 227 1 (.iload 2) :: zo 228 1 .dup2 :: zo 229 1 .iaload :: zk 230 1 (.iconst 0) 1 :: zo 231 2 (.iload 5) :: zo 233 1 .ishl :: zo 234 1 .ior :: zo 235 1 .iastore :: kM_layTargets_236
def kM_layTargets_150 : zCd := zo 150 2 (.iload 4) :: zo 152 1 (.aload 0) :: zz 153 3 (.getfield 0) 8 9 :: zx 156 3 (.if_icmp .ge 0) 242 :: zo 159 1 (.aload 0) :: zz 160 3 (.getfield 0) 8 14 :: zo 163 1 (.iload 2) :: zo 164 1 .iaload :: zx 165 3 (.ifCond .ge 0) 242 :: zo 168 1 (.aload 0) :: zz 169 3 (.getfield 0) 8 11 :: zo 172 1 (.iload 3) :: zo 173 2 (.iload 4) :: zo 175 1 .iadd :: zo 176 1 (.aload 0) :: zz 177 3 (.getfield 0) 8 9 :: zo 180 1 .irem :: zo 181 1 .iaload :: zo 182 2 (.istore 5) :: zo 184 1 (.aload 0) :: zz 185 3 (.getfield 0) 8 16 :: zo 188 2 (.iload 5) :: zo 190 1 .iaload :: zo 191 1 (.aload 0) :: zz 192 3 (.getfield 0) 8 13 :: zo 195 2 (.iload 5) :: zo 197 1 .iaload :: zx 198 3 (.if_icmp .ge 0) 223 :: zo 201 1 (.aload 0) :: zz 202 3 (.getfield 0) 8 14 :: zo 205 1 (.iload 2) :: zo 206 2 (.iload 5) :: zo 208 1 .iastore :: zo 209 1 (.aload 0) :: zz 210 3 (.getfield 0) 8 16 :: zo 213 2 (.iload 5) :: zo 215 1 .dup2 :: zo 216 1 .iaload :: zk 217 1 (.iconst 0) 1 :: zo 218 1 .iadd :: zo 219 1 .iastore :: zx 220 3 (.goto 0) 236 :: kM_layTargets_223
def kM_layTargets_116 : zCd := zo 116 1 (.iload 2) :: zk 117 2 (.iconst 0) (nI 32) :: zx 119 3 (.if_icmp .ge 0) 248 :: zo 122 1 (.aload 0) :: zz 123 3 (.getfield 0) 8 14 :: zo 126 1 (.iload 2) :: zk 127 1 (.iconst 0) (-1) :: zo 128 1 .iastore :: zo 129 1 (.aload 0) :: zz 130 3 (.getfield 0) 8 15 :: zo 133 1 (.iload 2) :: zk 134 1 (.iconst 0) 0 :: zo 135 1 .iastore :: zo 136 1 (.aload 0) :: zo 137 1 (.aload 0) :: zz 138 3 (.getfield 0) 8 8 :: zo 141 1 (.iload 2) :: zo 142 1 .iaload :: zz 143 3 (.invokevirtual 8) jM_successorOf 2 :: zo 146 1 (.istore 3) :: zk 147 1 (.iconst 0) 0 :: zo 148 2 (.istore 4) :: kM_layTargets_150
def kM_layTargets_114 : zCd := zk 114 1 (.iconst 0) 0 :: zo 115 1 (.istore 2) :: kM_layTargets_116
def kM_layTargets_100 : zCd := zo 100 1 .iastore :: zo 101 1 (.aload 0) :: zz 102 3 (.getfield 0) 8 16 :: zo 105 1 (.iload 2) :: zk 106 1 (.iconst 0) 0 :: zo 107 1 .iastore :: zk 108 3 (.iinc 2 0) 1 :: zx 111 3 (.goto 0) 47 :: kM_layTargets_114
def kM_layTargets_99 : zCd := zk 99 1 (.iconst 0) 0 :: kM_layTargets_100
def kM_layTargets_47 : zCd := zo 47 1 (.iload 2) :: zk 48 2 (.iconst 0) (nI 8) :: zx 50 3 (.if_icmp .ge 0) 114 :: zo 53 1 (.aload 0) :: zz 54 3 (.getfield 0) 8 13 :: zo 57 1 (.iload 2) :: zo 58 1 (.aload 0) :: zo 59 1 (.iload 2) :: zk 60 1 (.iconst 0) 1 :: zz 61 3 (.invokevirtual 8) jM_is 3 :: zx 64 3 (.ifCond .eq 0) 99 :: zk 67 1 (.iconst 0) 1 :: zk 68 2 (.iconst 0) (nI 32) :: zo 70 1 (.aload 0) :: zz 71 3 (.getfield 0) 8 0 :: zk 74 2 (.iconst 0) (nI 20) :: zo 76 1 (.iload 2) :: zo 77 1 .iadd :: zo 78 1 .iaload :: zo 79 1 .imul :: zk 80 2 (.iconst 0) (nI 100) :: zo 82 1 (.aload 0) :: zz 83 3 (.getfield 0) 8 0 :: zk 86 1 (.iconst 0) 0 :: zo 87 1 .iaload :: zo 88 1 .iadd :: zo 89 1 .imul :: zk 90 2 (.iconst 0) (nI 100) :: zo 92 1 (.iload 1) :: zo 93 1 .imul :: zo 94 1 .idiv :: zo 95 1 .iadd :: zx 96 3 (.goto 0) 100 :: kM_layTargets_99
def kM_layTargets_45 : zCd := zk 45 1 (.iconst 0) 0 :: zo 46 1 (.istore 2) :: kM_layTargets_47
def kM_layTargets_37 : zCd := zo 37 1 .iadd :: zo 38 1 (.istore 1) :: zk 39 3 (.iinc 2 0) 1 :: zx 42 3 (.goto 0) 8 :: kM_layTargets_45
def kM_layTargets_36 : zCd := zk 36 1 (.iconst 0) 0 :: kM_layTargets_37
def kM_layTargets_8 : zCd := zo 8 1 (.iload 2) :: zk 9 2 (.iconst 0) (nI 8) :: zx 11 3 (.if_icmp .ge 0) 45 :: zo 14 1 (.iload 1) :: zo 15 1 (.aload 0) :: zo 16 1 (.iload 2) :: zk 17 1 (.iconst 0) 1 :: zz 18 3 (.invokevirtual 8) jM_is 3 :: zx 21 3 (.ifCond .eq 0) 36 :: zo 24 1 (.aload 0) :: zz 25 3 (.getfield 0) 8 0 :: zk 28 2 (.iconst 0) (nI 20) :: zo 30 1 (.iload 2) :: zo 31 1 .iadd :: zo 32 1 .iaload :: zx 33 3 (.goto 0) 37 :: kM_layTargets_36
def kM_layTargets_0 : zCd := zo 0 1 (.aload 0) :: zz 1 3 (.invokevirtual 8) jM_layRing 1 :: zk 4 1 (.iconst 0) 0 :: zo 5 1 (.istore 1) :: zk 6 1 (.iconst 0) 0 :: zo 7 1 (.istore 2) :: kM_layTargets_8
def mM_layTargets : zMe := (yX7_layTargets, cX7_layTargets, 6, none, 2, 46, kM_layTargets_0)
def kM_isServed_37 : zCd := zx 37 1 .ireturn 1 :: []
def kM_isServed_36 : zCd := zk 36 1 (.iconst 0) 0 :: kM_isServed_37
def kM_isServed_32 : zCd := zk 32 1 (.iconst 0) 1 :: zx 33 3 (.goto 0) 37 :: kM_isServed_36
def kM_isServed_0 : zCd := zo 0 1 (.aload 0) :: zz 1 3 (.getfield 0) 8 0 :: zk 4 2 (.iconst 0) (nI 28) :: zo 6 1 (.iload 1) :: zo 7 1 .iadd :: zo 8 1 .iaload :: zo 9 1 (.istore 2) :: zo 10 1 (.iload 2) :: zx 11 3 (.ifCond .lt 0) 36 :: zo 14 1 (.aload 0) :: zo 15 1 (.iload 2) :: zk 16 1 (.iconst 0) 1 :: zz 17 3 (.invokevirtual 8) jM_is 3 :: zx 20 3 (.ifCond .ne 0) 32 :: zo 23 1 (.aload 0) :: zo 24 1 (.iload 2) :: zk 25 1 (.iconst 0) (nI 2) :: zz 26 3 (.invokevirtual 8) jM_is 3 :: zx 29 3 (.ifCond .eq 0) 36 :: kM_isServed_32
def mM_isServed : zMe := (yX7_isServed, cX7_isServed, 3, (Option.some Jvm.ClassFile.FieldType.boolean), 1, 22, kM_isServed_0)
def kM_tells_58 : zCd := zk 58 3 (.iconst 0) (nI 220) :: zk 61 1 (.iconst 0) (nI 4) :: zo 62 1 (.aload 0) :: zz 63 3 (.getfield 0) 8 0 :: zk 66 2 (.iconst 0) (nI 11) :: zo 68 1 .iaload :: zo 69 1 .imul :: zo 70 1 .iadd :: zo 71 2 (.istore 4) :: zo 73 1 (.aload 0) :: zz 74 3 (.getfield 0) 8 0 :: zo 77 2 (.iload 4) :: zo 79 1 (.aload 0) :: zz 80 3 (.getfield 0) 8 0 :: zk 83 1 (.iconst 0) (nI 3) :: zo 84 1 .iaload :: zo 85 1 .iastore :: zo 86 1 (.aload 0) :: zz 87 3 (.getfield 0) 8 0 :: zo 90 2 (.iload 4) :: zk 92 1 (.iconst 0) 1 :: zo 93 1 .iadd :: zo 94 1 (.iload 1) :: zo 95 1 .iastore :: zo 96 1 (.aload 0) :: zz 97 3 (.getfield 0) 8 0 :: zo 100 2 (.iload 4) :: zk 102 1 (.iconst 0) (nI 2) :: zo 103 1 .iadd :: zo 104 1 (.iload 2) :: zo 105 1 .iastore :: zo 106 1 (.aload 0) :: zz 107 3 (.getfield 0) 8 0 :: zo 110 2 (.iload 4) :: zk 112 1 (.iconst 0) (nI 3) :: zo 113 1 .iadd :: zo 114 1 (.iload 3) :: zo 115 1 .iastore :: zo 116 1 (.aload 0) :: zz 117 3 (.getfield 0) 8 0 :: zk 120 2 (.iconst 0) (nI 11) :: zo 122 1 .dup2 :: zo 123 1 .iaload :: zk 124 1 (.iconst 0) 1 :: zo 125 1 .iadd :: zo 126 1 .iastore :: zo 127 1 .return_ :: []
def kM_tells_47 : zCd := zo 47 1 (.aload 0) :: zz 48 3 (.getfield 0) 8 0 :: zk 51 2 (.iconst 0) (nI 11) :: zo 53 1 .dup2 :: zo 54 1 .iaload :: zk 55 1 (.iconst 0) 1 :: zo 56 1 .isub :: zo 57 1 .iastore :: kM_tells_58
def kM_tells_17 : zCd := zo 17 2 (.iload 4) :: zk 19 3 (.iconst 0) (nI 336) :: zx 22 3 (.if_icmp .ge 0) 47 :: zo 25 1 (.aload 0) :: zz 26 3 (.getfield 0) 8 0 :: zo 29 2 (.iload 4) :: zo 31 1 (.aload 0) :: zz 32 3 (.getfield 0) 8 0 :: zo 35 2 (.iload 4) :: zk 37 1 (.iconst 0) (nI 4) :: zo 38 1 .iadd :: zo 39 1 .iaload :: zo 40 1 .iastore :: zk 41 3 (.iinc 4 0) 1 :: zx 44 3 (.goto 0) 17 :: kM_tells_47
def kM_tells_0 : zCd := zo 0 1 (.aload 0) :: zz 1 3 (.getfield 0) 8 0 :: zk 4 2 (.iconst 0) (nI 11) :: zo 6 1 .iaload :: zk 7 2 (.iconst 0) (nI 30) :: zx 9 3 (.if_icmp .ne 0) 58 :: zk 12 3 (.iconst 0) (nI 220) :: zo 15 2 (.istore 4) :: kM_tells_17
def mM_tells : zMe := (yX7_tells, cX7_tells, 5, none, 0, 0, kM_tells_0)
def kM_leases_111 : zCd := zo 111 1 .return_ :: []
def kM_leases_105 : zCd := zk 105 3 (.iinc 1 0) 1 :: zx 108 3 (.goto 0) 2 :: kM_leases_111
def kM_leases_55 : zCd := zo 55 1 (.iload 2) :: zx 56 3 (.ifCond .lt 0) 105 :: zo 59 1 (.aload 0) :: zz 60 3 (.getfield 0) 8 0 :: zk 63 2 (.iconst 0) (nI 60) :: zo 65 1 (.iload 1) :: zo 66 1 .iadd :: zo 67 1 .iaload :: zo 68 1 (.aload 0) :: zz 69 3 (.getfield 0) 8 0 :: zk 72 1 (.iconst 0) (nI 3) :: zo 73 1 .iaload :: zx 74 3 (.if_icmp .gt 0) 105 :: zo 77 1 (.aload 0) :: zz 78 3 (.getfield 0) 8 0 :: zk 81 2 (.iconst 0) (nI 28) :: zo 83 1 (.iload 1) :: zo 84 1 .iadd :: zk 85 1 (.iconst 0) (-1) :: zo 86 1 .iastore :: zo 87 1 (.aload 0) :: zz 88 3 (.getfield 0) 8 0 :: zk 91 2 (.iconst 0) (nI 9) :: zo 93 1 .dup2 :: zo 94 1 .iaload :: zk 95 1 (.iconst 0) 1 :: zo 96 1 .iadd :: zo 97 1 .iastore :: zo 98 1 (.aload 0) :: zk 99 1 (.iconst 0) (nI 3) :: zo 100 1 (.iload 1) :: zo 101 1 (.iload 2) :: zz 102 3 (.invokevirtual 8) jM_tells 4 :: kM_leases_105
def kM_leases_2 : zCd := zo 2 1 (.iload 1) :: zk 3 2 (.iconst 0) (nI 32) :: zx 5 3 (.if_icmp .ge 0) 111 :: zo 8 1 (.aload 0) :: zz 9 3 (.getfield 0) 8 0 :: zk 12 2 (.iconst 0) (nI 28) :: zo 14 1 (.iload 1) :: zo 15 1 .iadd :: zo 16 1 .iaload :: zo 17 1 (.istore 2) :: zo 18 1 (.iload 2) :: zx 19 3 (.ifCond .lt 0) 55 :: zo 22 1 (.aload 0) :: zo 23 1 (.iload 1) :: zz 24 3 (.invokevirtual 8) jM_isServed 2 :: zx 27 3 (.ifCond .eq 0) 55 :: zo 30 1 (.aload 0) :: zz 31 3 (.getfield 0) 8 0 :: zk 34 2 (.iconst 0) (nI 60) :: zo 36 1 (.iload 1) :: zo 37 1 .iadd :: zo 38 1 (.aload 0) :: zz 39 3 (.getfield 0) 8 0 :: zk 42 1 (.iconst 0) (nI 3) :: zo 43 1 .iaload :: zo 44 1 (.aload 0) :: zz 45 3 (.getfield 0) 8 0 :: zk 48 1 (.iconst 0) (nI 2) :: zo 49 1 .iaload :: zo 50 1 .iadd :: zo 51 1 .iastore :: zx 52 3 (.goto 0) 105 :: kM_leases_55
def kM_leases_0 : zCd := zk 0 1 (.iconst 0) 0 :: zo 1 1 (.istore 1) :: kM_leases_2
def mM_leases : zMe := (yX7_leases, cX7_leases, 3, none, 2, 44, kM_leases_0)
def kM_of_0 : zCd := zo 0 1 (.aload 0) :: zz 1 3 (.getfield 0) 8 0 :: zk 4 2 (.iconst 0) (nI 92) :: zk 6 1 (.iconst 0) (nI 4) :: zo 7 1 (.iload 1) :: zo 8 1 .imul :: zo 9 1 .iadd :: zo 10 1 (.iload 2) :: zo 11 1 .iadd :: zo 12 1 .iaload :: zx 13 1 .ireturn 0 :: []
def mM_of : zMe := (yX7_of, cX7_of, 3, (Option.some Jvm.ClassFile.FieldType.int), 0, 0, kM_of_0)
def kM_isLost_60 : zCd := zx 60 1 .ireturn 1 :: []
def kM_isLost_59 : zCd := zk 59 1 (.iconst 0) 0 :: kM_isLost_60
def kM_isLost_55 : zCd := zk 55 1 (.iconst 0) 1 :: zx 56 3 (.goto 0) 60 :: kM_isLost_59
def kM_isLost_0 : zCd := zo 0 1 (.aload 0) :: zo 1 1 (.iload 1) :: zk 2 1 (.iconst 0) 0 :: zz 3 3 (.invokevirtual 8) jM_of 3 :: zo 6 1 (.istore 2) :: zo 7 1 (.aload 0) :: zo 8 1 (.iload 1) :: zk 9 1 (.iconst 0) 1 :: zz 10 3 (.invokevirtual 8) jM_of 3 :: zo 13 1 (.istore 3) :: zo 14 1 (.aload 0) :: zo 15 1 (.iload 1) :: zk 16 1 (.iconst 0) (nI 2) :: zz 17 3 (.invokevirtual 8) jM_of 3 :: zo 20 1 (.aload 0) :: zz 21 3 (.getfield 0) 8 14 :: zo 24 1 (.iload 2) :: zo 25 1 .iaload :: zx 26 3 (.if_icmp .ne 0) 55 :: zo 29 1 (.iload 3) :: zx 30 3 (.ifCond .lt 0) 59 :: zo 33 1 (.aload 0) :: zz 34 3 (.getfield 0) 8 0 :: zk 37 2 (.iconst 0) (nI 28) :: zo 39 1 (.iload 2) :: zo 40 1 .iadd :: zo 41 1 .iaload :: zo 42 1 (.iload 3) :: zx 43 3 (.if_icmp .ne 0) 55 :: zo 46 1 (.aload 0) :: zo 47 1 (.iload 3) :: zk 48 1 (.iconst 0) (nI 3) :: zz 49 3 (.invokevirtual 8) jM_is 3 :: zx 52 3 (.ifCond .eq 0) 59 :: kM_isLost_55
def mM_isLost : zMe := (yX7_isLost, cX7_isLost, 4, (Option.some Jvm.ClassFile.FieldType.boolean), 1, 22, kM_isLost_0)
def kM_endMove_54 : zCd := zo 54 1 .return_ :: []
def kM_endMove_18 : zCd := zo 18 1 (.iload 2) :: zk 19 2 (.iconst 0) (nI 92) :: zk 21 1 (.iconst 0) (nI 4) :: zo 22 1 (.aload 0) :: zz 23 3 (.getfield 0) 8 0 :: zk 26 2 (.iconst 0) (nI 10) :: zo 28 1 .iaload :: zo 29 1 .imul :: zo 30 1 .iadd :: zx 31 3 (.if_icmp .ge 0) 54 :: zo 34 1 (.aload 0) :: zz 35 3 (.getfield 0) 8 0 :: zo 38 1 (.iload 2) :: zo 39 1 (.aload 0) :: zz 40 3 (.getfield 0) 8 0 :: zo 43 1 (.iload 2) :: zk 44 1 (.iconst 0) (nI 4) :: zo 45 1 .iadd :: zo 46 1 .iaload :: zo 47 1 .iastore :: zk 48 3 (.iinc 2 0) 1 :: zx 51 3 (.goto 0) 18 :: kM_endMove_54
def kM_endMove_0 : zCd := zo 0 1 (.aload 0) :: zz 1 3 (.getfield 0) 8 0 :: zk 4 2 (.iconst 0) (nI 10) :: zo 6 1 .dup2 :: zo 7 1 .iaload :: zk 8 1 (.iconst 0) 1 :: zo 9 1 .isub :: zo 10 1 .iastore :: zk 11 2 (.iconst 0) (nI 92) :: zk 13 1 (.iconst 0) (nI 4) :: zo 14 1 (.iload 1) :: zo 15 1 .imul :: zo 16 1 .iadd :: zo 17 1 (.istore 2) :: kM_endMove_18
def mM_endMove : zMe := (yX7_endMove, cX7_endMove, 3, none, 0, 0, kM_endMove_0)
def kM_goOn_172 : zCd := zo 172 1 .return_ :: []
def kM_goOn_169 : zCd := zx 169 3 (.goto 0) 2 :: kM_goOn_172
def kM_goOn_166 : zCd := zk 166 3 (.iinc 1 0) 1 :: kM_goOn_169
def kM_goOn_61 : zCd := zo 61 1 (.aload 0) :: zz 62 3 (.getfield 0) 8 0 :: zk 65 2 (.iconst 0) (nI 92) :: zk 67 1 (.iconst 0) (nI 4) :: zo 68 1 (.iload 1) :: zo 69 1 .imul :: zo 70 1 .iadd :: zk 71 1 (.iconst 0) (nI 3) :: zo 72 1 .iadd :: zo 73 1 .dup2 :: zo 74 1 .iaload :: zk 75 1 (.iconst 0) 1 :: zo 76 1 .iadd :: zo 77 1 .iastore :: zo 78 1 (.aload 0) :: zo 79 1 (.iload 1) :: zk 80 1 (.iconst 0) (nI 3) :: zz 81 3 (.invokevirtual 8) jM_of 3 :: zo 84 1 (.aload 0) :: zz 85 3 (.getfield 0) 8 7 :: zo 88 1 (.iload 2) :: zo 89 1 .iaload :: zx 90 3 (.if_icmp .ne 0) 166 :: zo 93 1 (.aload 0) :: zz 94 3 (.getfield 0) 8 0 :: zk 97 1 (.iconst 0) (nI 5) :: zo 98 1 .dup2 :: zo 99 1 .iaload :: zk 100 1 (.iconst 0) 1 :: zo 101 1 .iadd :: zo 102 1 .iastore :: zo 103 1 (.aload 0) :: zz 104 3 (.getfield 0) 8 0 :: zk 107 2 (.iconst 0) (nI 7) :: zo 109 1 .dup2 :: zo 110 1 .iaload :: zo 111 1 (.aload 0) :: zz 112 3 (.getfield 0) 8 7 :: zo 115 1 (.iload 2) :: zo 116 1 .iaload :: zo 117 1 .iadd :: zo 118 1 .iastore :: zo 119 1 (.aload 0) :: zz 120 3 (.getfield 0) 8 0 :: zk 123 2 (.iconst 0) (nI 28) :: zo 125 1 (.iload 2) :: zo 126 1 .iadd :: zo 127 1 (.iload 3) :: zo 128 1 .iastore :: zo 129 1 (.aload 0) :: zz 130 3 (.getfield 0) 8 0 :: zk 133 2 (.iconst 0) (nI 60) :: zo 135 1 (.iload 2) :: zo 136 1 .iadd :: zo 137 1 (.aload 0) :: zz 138 3 (.getfield 0) 8 0 :: zk 141 1 (.iconst 0) (nI 3) :: zo 142 1 .iaload :: zo 143 1 (.aload 0) :: zz 144 3 (.getfield 0) 8 0 :: zk 147 1 (.iconst 0) (nI 2) :: zo 148 1 .iaload :: zo 149 1 .iadd :: zo 150 1 .iastore :: zo 151 1 (.aload 0) :: zk 152 1 (.iconst 0) 1 :: zo 153 1 (.iload 2) :: zo 154 1 (.iload 3) :: zz 155 3 (.invokevirtual 8) jM_tells 4 :: zo 158 1 (.aload 0) :: zo 159 1 (.iload 1) :: zz 160 3 (.invokevirtual 8) jM_endMove 2 :: zx 163 3 (.goto 0) 169 :: kM_goOn_166
def kM_goOn_2 : zCd := zo 2 1 (.iload 1) :: zo 3 1 (.aload 0) :: zz 4 3 (.getfield 0) 8 0 :: zk 7 2 (.iconst 0) (nI 10) :: zo 9 1 .iaload :: zx 10 3 (.if_icmp .ge 0) 172 :: zo 13 1 (.aload 0) :: zo 14 1 (.iload 1) :: zk 15 1 (.iconst 0) 0 :: zz 16 3 (.invokevirtual 8) jM_of 3 :: zo 19 1 (.istore 2) :: zo 20 1 (.aload 0) :: zo 21 1 (.iload 1) :: zk 22 1 (.iconst 0) (nI 2) :: zz 23 3 (.invokevirtual 8) jM_of 3 :: zo 26 1 (.istore 3) :: zo 27 1 (.aload 0) :: zo 28 1 (.iload 1) :: zz 29 3 (.invokevirtual 8) jM_isLost 2 :: zx 32 3 (.ifCond .eq 0) 61 :: zo 35 1 (.aload 0) :: zz 36 3 (.getfield 0) 8 0 :: zk 39 2 (.iconst 0) (nI 6) :: zo 41 1 .dup2 :: zo 42 1 .iaload :: zk 43 1 (.iconst 0) 1 :: zo 44 1 .iadd :: zo 45 1 .iastore :: zo 46 1 (.aload 0) :: zk 47 1 (.iconst 0) (nI 2) :: zo 48 1 (.iload 2) :: zo 49 1 (.iload 3) :: zz 50 3 (.invokevirtual 8) jM_tells 4 :: zo 53 1 (.aload 0) :: zo 54 1 (.iload 1) :: zz 55 3 (.invokevirtual 8) jM_endMove 2 :: zx 58 3 (.goto 0) 169 :: kM_goOn_61
def kM_goOn_0 : zCd := zk 0 1 (.iconst 0) 0 :: zo 1 1 (.istore 1) :: kM_goOn_2
def mM_goOn : zMe := (yX7_goOn, cX7_goOn, 4, none, 2, 45, kM_goOn_0)
def kM_moveOf_37 : zCd := zo 37 1 (.iload 2) :: zx 38 1 .ireturn 0 :: []
def kM_moveOf_30 : zCd := zo 30 1 (.istore 2) :: zk 31 3 (.iinc 3 0) 1 :: zx 34 3 (.goto 0) 4 :: kM_moveOf_37
def kM_moveOf_29 : zCd := zo 29 1 (.iload 2) :: kM_moveOf_30
def kM_moveOf_4 : zCd := zo 4 1 (.iload 3) :: zo 5 1 (.aload 0) :: zz 6 3 (.getfield 0) 8 0 :: zk 9 2 (.iconst 0) (nI 10) :: zo 11 1 .iaload :: zx 12 3 (.if_icmp .ge 0) 37 :: zo 15 1 (.aload 0) :: zo 16 1 (.iload 3) :: zk 17 1 (.iconst 0) 0 :: zz 18 3 (.invokevirtual 8) jM_of 3 :: zo 21 1 (.iload 1) :: zx 22 3 (.if_icmp .ne 0) 29 :: zo 25 1 (.iload 3) :: zx 26 3 (.goto 0) 30 :: kM_moveOf_29
def kM_moveOf_0 : zCd := zk 0 1 (.iconst 0) (-1) :: zo 1 1 (.istore 2) :: zk 2 1 (.iconst 0) 0 :: zo 3 1 (.istore 3) :: kM_moveOf_4
def mM_moveOf : zMe := (yX7_moveOf, cX7_moveOf, 4, (Option.some Jvm.ClassFile.FieldType.int), 1, 22, kM_moveOf_0)
def kM_comingTo_39 : zCd := zo 39 1 (.iload 2) :: zx 40 1 .ireturn 0 :: []
def kM_comingTo_31 : zCd := zo 31 1 .iadd :: zo 32 1 (.istore 2) :: zk 33 3 (.iinc 3 0) 1 :: zx 36 3 (.goto 0) 4 :: kM_comingTo_39
def kM_comingTo_30 : zCd := zk 30 1 (.iconst 0) 0 :: kM_comingTo_31
def kM_comingTo_4 : zCd := zo 4 1 (.iload 3) :: zo 5 1 (.aload 0) :: zz 6 3 (.getfield 0) 8 0 :: zk 9 2 (.iconst 0) (nI 10) :: zo 11 1 .iaload :: zx 12 3 (.if_icmp .ge 0) 39 :: zo 15 1 (.iload 2) :: zo 16 1 (.aload 0) :: zo 17 1 (.iload 3) :: zk 18 1 (.iconst 0) (nI 2) :: zz 19 3 (.invokevirtual 8) jM_of 3 :: zo 22 1 (.iload 1) :: zx 23 3 (.if_icmp .ne 0) 30 :: zk 26 1 (.iconst 0) 1 :: zx 27 3 (.goto 0) 31 :: kM_comingTo_30
def kM_comingTo_0 : zCd := zk 0 1 (.iconst 0) 0 :: zo 1 1 (.istore 2) :: zk 2 1 (.iconst 0) 0 :: zo 3 1 (.istore 3) :: kM_comingTo_4
def mM_comingTo : zMe := (yX7_comingTo, cX7_comingTo, 4, (Option.some Jvm.ClassFile.FieldType.int), 1, 22, kM_comingTo_0)
def kM_rank_119 : zCd := zx 119 1 .ireturn 0 :: []
def kM_rank_118 : zCd := zk 118 1 (.iconst 0) (-1) :: kM_rank_119
def kM_rank_92 : zCd := zo 92 2 (.istore 4) :: zo 94 1 (.iload 3) :: zx 95 3 (.ifCond .eq 0) 118 :: zk 98 2 (.iconst 0) (nI 16) :: zo 100 2 (.iload 4) :: zo 102 1 .imul :: zo 103 1 (.aload 0) :: zz 104 3 (.getfield 0) 8 7 :: zo 107 1 (.iload 1) :: zo 108 1 .iaload :: zo 109 1 .iadd :: zk 110 2 (.iconst 0) (nI 32) :: zo 112 1 .imul :: zo 113 1 (.iload 1) :: zo 114 1 .iadd :: zx 115 3 (.goto 0) 119 :: kM_rank_118
def kM_rank_91 : zCd := zk 91 1 (.iconst 0) (nI 2) :: kM_rank_92
def kM_rank_78 : zCd := zo 78 1 (.aload 0) :: zo 79 1 (.iload 2) :: zk 80 1 (.iconst 0) (nI 2) :: zz 81 3 (.invokevirtual 8) jM_is 3 :: zx 84 3 (.ifCond .eq 0) 91 :: zk 87 1 (.iconst 0) 1 :: zx 88 3 (.goto 0) 92 :: kM_rank_91
def kM_rank_69 : zCd := zo 69 1 (.istore 3) :: zo 70 1 (.iload 2) :: zx 71 3 (.ifCond .ge 0) 78 :: zk 74 1 (.iconst 0) 0 :: zx 75 3 (.goto 0) 92 :: kM_rank_78
def kM_rank_68 : zCd := zk 68 1 (.iconst 0) 0 :: kM_rank_69
def kM_rank_64 : zCd := zk 64 1 (.iconst 0) 1 :: zx 65 3 (.goto 0) 69 :: kM_rank_68
def kM_rank_0 : zCd := zo 0 1 (.aload 0) :: zz 1 3 (.getfield 0) 8 0 :: zk 4 2 (.iconst 0) (nI 28) :: zo 6 1 (.iload 1) :: zo 7 1 .iadd :: zo 8 1 .iaload :: zo 9 1 (.istore 2) :: zo 10 1 (.aload 0) :: zo 11 1 (.iload 1) :: zz 12 3 (.invokevirtual 8) jM_moveOf 2 :: zx 15 3 (.ifCond .ge 0) 68 :: zo 18 1 (.aload 0) :: zz 19 3 (.getfield 0) 8 14 :: zo 22 1 (.iload 1) :: zo 23 1 .iaload :: zx 24 3 (.ifCond .lt 0) 68 :: zo 27 1 (.aload 0) :: zz 28 3 (.getfield 0) 8 14 :: zo 31 1 (.iload 1) :: zo 32 1 .iaload :: zo 33 1 (.iload 2) :: zx 34 3 (.if_icmp .eq 0) 68 :: zo 37 1 (.aload 0) :: zo 38 1 (.aload 0) :: zz 39 3 (.getfield 0) 8 14 :: zo 42 1 (.iload 1) :: zo 43 1 .iaload :: zz 44 3 (.invokevirtual 8) jM_comingTo 2 :: zk 47 1 (.iconst 0) (nI 2) :: zx 48 3 (.if_icmp .ge 0) 68 :: zo 51 1 (.iload 2) :: zx 52 3 (.ifCond .lt 0) 64 :: zo 55 1 (.aload 0) :: zo 56 1 (.iload 2) :: zk 57 1 (.iconst 0) (nI 3) :: zz 58 3 (.invokevirtual 8) jM_is 3 :: zx 61 3 (.ifCond .ne 0) 68 :: kM_rank_64
def mM_rank : zMe := (yX7_rank, cX7_rank, 5, (Option.some Jvm.ClassFile.FieldType.int), 2, 45, kM_rank_0)
def kM_begin_207 : zCd := zo 207 1 .return_ :: []
def kM_begin_203 : zCd := zo 203 1 (.istore 1) :: zx 204 3 (.goto 0) 22 :: kM_begin_207
def kM_begin_202 : zCd := zk 202 1 (.iconst 0) 0 :: kM_begin_203
def kM_begin_178 : zCd := zo 178 1 (.iload 2) :: zx 179 3 (.ifCond .lt 0) 202 :: zo 182 1 (.aload 0) :: zz 183 3 (.getfield 0) 8 0 :: zk 186 2 (.iconst 0) (nI 10) :: zo 188 1 .iaload :: zo 189 1 (.aload 0) :: zz 190 3 (.getfield 0) 8 0 :: zk 193 1 (.iconst 0) 1 :: zo 194 1 .iaload :: zx 195 3 (.if_icmp .ge 0) 202 :: zk 198 1 (.iconst 0) 1 :: zx 199 3 (.goto 0) 203 :: kM_begin_202
def kM_begin_71 : zCd := zo 71 1 (.iload 2) :: zx 72 3 (.ifCond .lt 0) 178 :: zo 75 1 (.iload 2) :: zk 76 2 (.iconst 0) (nI 32) :: zo 78 1 .irem :: zo 79 1 (.istore 3) :: zk 80 2 (.iconst 0) (nI 92) :: zk 82 1 (.iconst 0) (nI 4) :: zo 83 1 (.aload 0) :: zz 84 3 (.getfield 0) 8 0 :: zk 87 2 (.iconst 0) (nI 10) :: zo 89 1 .iaload :: zo 90 1 .imul :: zo 91 1 .iadd :: zo 92 2 (.istore 4) :: zo 94 1 (.aload 0) :: zz 95 3 (.getfield 0) 8 0 :: zo 98 2 (.iload 4) :: zo 100 1 (.iload 3) :: zo 101 1 .iastore :: zo 102 1 (.aload 0) :: zz 103 3 (.getfield 0) 8 0 :: zo 106 2 (.iload 4) :: zk 108 1 (.iconst 0) 1 :: zo 109 1 .iadd :: zo 110 1 (.aload 0) :: zz 111 3 (.getfield 0) 8 0 :: zk 114 2 (.iconst 0) (nI 28) :: zo 116 1 (.iload 3) :: zo 117 1 .iadd :: zo 118 1 .iaload :: zo 119 1 .iastore :: zo 120 1 (.aload 0) :: zz 121 3 (.getfield 0) 8 0 :: zo 124 2 (.iload 4) :: zk 126 1 (.iconst 0) (nI 2) :: zo 127 1 .iadd :: zo 128 1 (.aload 0) :: zz 129 3 (.getfield 0) 8 14 :: zo 132 1 (.iload 3) :: zo 133 1 .iaload :: zo 134 1 .iastore :: zo 135 1 (.aload 0) :: zz 136 3 (.getfield 0) 8 0 :: zo 139 2 (.iload 4) :: zk 141 1 (.iconst 0) (nI 3) :: zo 142 1 .iadd :: zk 143 1 (.iconst 0) 0 :: zo 144 1 .iastore :: zo 145 1 (.aload 0) :: zz 146 3 (.getfield 0) 8 0 :: zk 149 2 (.iconst 0) (nI 10) :: zo 151 1 .dup2 :: zo 152 1 .iaload :: zk 153 1 (.iconst 0) 1 :: zo 154 1 .iadd :: zo 155 1 .iastore :: zo 156 1 (.aload 0) :: zz 157 3 (.getfield 0) 8 0 :: zk 160 1 (.iconst 0) (nI 4) :: zo 161 1 .dup2 :: zo 162 1 .iaload :: zk 163 1 (.iconst 0) 1 :: zo 164 1 .iadd :: zo 165 1 .iastore :: zo 166 1 (.aload 0) :: zk 167 1 (.iconst 0) 0 :: zo 168 1 (.iload 3) :: zo 169 1 (.aload 0) :: zz 170 3 (.getfield 0) 8 14 :: zo 173 1 (.iload 3) :: zo 174 1 .iaload :: zz 175 3 (.invokevirtual 8) jM_tells 4 :: kM_begin_178
def kM_begin_64 : zCd := zo 64 1 (.istore 2) :: zk 65 3 (.iinc 3 0) 1 :: zx 68 3 (.goto 0) 30 :: kM_begin_71
def kM_begin_63 : zCd := zo 63 1 (.iload 2) :: kM_begin_64
def kM_begin_58 : zCd := zo 58 2 (.iload 4) :: zx 60 3 (.goto 0) 64 :: kM_begin_63
def kM_begin_30 : zCd := zo 30 1 (.iload 3) :: zk 31 2 (.iconst 0) (nI 32) :: zx 33 3 (.if_icmp .ge 0) 71 :: zo 36 1 (.aload 0) :: zo 37 1 (.iload 3) :: zz 38 3 (.invokevirtual 8) jM_rank 2 :: zo 41 2 (.istore 4) :: zo 43 2 (.iload 4) :: zx 45 3 (.ifCond .lt 0) 63 :: zo 48 1 (.iload 2) :: zx 49 3 (.ifCond .lt 0) 58 :: zo 52 2 (.iload 4) :: zo 54 1 (.iload 2) :: zx 55 3 (.if_icmp .ge 0) 63 :: kM_begin_58
def kM_begin_22 : zCd := zo 22 1 (.iload 1) :: zx 23 3 (.ifCond .eq 0) 207 :: zk 26 1 (.iconst 0) (-1) :: zo 27 1 (.istore 2) :: zk 28 1 (.iconst 0) 0 :: zo 29 1 (.istore 3) :: kM_begin_30
def kM_begin_21 : zCd := zo 21 1 (.istore 1) :: kM_begin_22
def kM_begin_20 : zCd := zk 20 1 (.iconst 0) 0 :: kM_begin_21
def kM_begin_0 : zCd := zo 0 1 (.aload 0) :: zz 1 3 (.getfield 0) 8 0 :: zk 4 2 (.iconst 0) (nI 10) :: zo 6 1 .iaload :: zo 7 1 (.aload 0) :: zz 8 3 (.getfield 0) 8 0 :: zk 11 1 (.iconst 0) 1 :: zo 12 1 .iaload :: zx 13 3 (.if_icmp .ge 0) 20 :: zk 16 1 (.iconst 0) 1 :: zx 17 3 (.goto 0) 21 :: kM_begin_20
def mM_begin : zMe := (yX7_begin, cX7_begin, 5, none, 3, 69, kM_begin_0)
def kM_owned_37 : zCd := zo 37 1 (.iload 2) :: zx 38 1 .ireturn 0 :: []
def kM_owned_29 : zCd := zo 29 1 .iadd :: zo 30 1 (.istore 2) :: zk 31 3 (.iinc 3 0) 1 :: zx 34 3 (.goto 0) 4 :: kM_owned_37
def kM_owned_28 : zCd := zk 28 1 (.iconst 0) 0 :: kM_owned_29
def kM_owned_4 : zCd := zo 4 1 (.iload 3) :: zk 5 2 (.iconst 0) (nI 32) :: zx 7 3 (.if_icmp .ge 0) 37 :: zo 10 1 (.iload 2) :: zo 11 1 (.aload 0) :: zz 12 3 (.getfield 0) 8 0 :: zk 15 2 (.iconst 0) (nI 28) :: zo 17 1 (.iload 3) :: zo 18 1 .iadd :: zo 19 1 .iaload :: zo 20 1 (.iload 1) :: zx 21 3 (.if_icmp .ne 0) 28 :: zk 24 1 (.iconst 0) 1 :: zx 25 3 (.goto 0) 29 :: kM_owned_28
def kM_owned_0 : zCd := zk 0 1 (.iconst 0) 0 :: zo 1 1 (.istore 2) :: zk 2 1 (.iconst 0) 0 :: zo 3 1 (.istore 3) :: kM_owned_4
def mM_owned : zMe := (yX7_owned, cX7_owned, 4, (Option.some Jvm.ClassFile.FieldType.int), 0, 0, kM_owned_0)
def kM_tickOnce_121 : zCd := zo 121 1 .return_ :: []
def kM_tickOnce_113 : zCd := zo 113 1 .iadd :: zo 114 1 .iastore :: zk 115 3 (.iinc 1 0) 1 :: zx 118 3 (.goto 0) 86 :: kM_tickOnce_121
def kM_tickOnce_112 : zCd := zk 112 1 (.iconst 0) 1 :: kM_tickOnce_113
def kM_tickOnce_86 : zCd := zo 86 1 (.iload 1) :: zk 87 2 (.iconst 0) (nI 32) :: zx 89 3 (.if_icmp .ge 0) 121 :: zo 92 1 (.aload 0) :: zz 93 3 (.getfield 0) 8 0 :: zk 96 2 (.iconst 0) (nI 8) :: zo 98 1 .dup2 :: zo 99 1 .iaload :: zo 100 1 (.aload 0) :: zo 101 1 (.iload 1) :: zz 102 3 (.invokevirtual 8) jM_isServed 2 :: zx 105 3 (.ifCond .eq 0) 112 :: zk 108 1 (.iconst 0) 0 :: zx 109 3 (.goto 0) 113 :: kM_tickOnce_112
def kM_tickOnce_84 : zCd := zk 84 1 (.iconst 0) 0 :: zo 85 1 (.istore 1) :: kM_tickOnce_86
def kM_tickOnce_78 : zCd := zk 78 3 (.iinc 1 0) 1 :: zx 81 3 (.goto 0) 28 :: kM_tickOnce_84
def kM_tickOnce_28 : zCd := zo 28 1 (.iload 1) :: zk 29 2 (.iconst 0) (nI 8) :: zx 31 3 (.if_icmp .ge 0) 84 :: zo 34 1 (.aload 0) :: zo 35 1 (.iload 1) :: zk 36 1 (.iconst 0) (nI 2) :: zz 37 3 (.invokevirtual 8) jM_is 3 :: zx 40 3 (.ifCond .eq 0) 78 :: zo 43 1 (.aload 0) :: zo 44 1 (.iload 1) :: zz 45 3 (.invokevirtual 8) jM_owned 2 :: zx 48 3 (.ifCond .ne 0) 78 :: zo 51 1 (.aload 0) :: zz 52 3 (.getfield 0) 8 0 :: zk 55 2 (.iconst 0) (nI 12) :: zo 57 1 (.iload 1) :: zo 58 1 .iadd :: zk 59 1 (.iconst 0) 0 :: zo 60 1 .iastore :: zo 61 1 (.aload 0) :: zz 62 3 (.getfield 0) 8 0 :: zk 65 2 (.iconst 0) (nI 20) :: zo 67 1 (.iload 1) :: zo 68 1 .iadd :: zk 69 1 (.iconst 0) 0 :: zo 70 1 .iastore :: zo 71 1 (.aload 0) :: zk 72 1 (.iconst 0) (nI 4) :: zk 73 1 (.iconst 0) (-1) :: zo 74 1 (.iload 1) :: zz 75 3 (.invokevirtual 8) jM_tells 4 :: kM_tickOnce_78
def kM_tickOnce_0 : zCd := zo 0 1 (.aload 0) :: zz 1 3 (.invokevirtual 8) jM_layTargets 1 :: zo 4 1 (.aload 0) :: zz 5 3 (.getfield 0) 8 0 :: zk 8 1 (.iconst 0) (nI 3) :: zo 9 1 .dup2 :: zo 10 1 .iaload :: zk 11 1 (.iconst 0) 1 :: zo 12 1 .iadd :: zo 13 1 .iastore :: zo 14 1 (.aload 0) :: zz 15 3 (.invokevirtual 8) jM_leases 1 :: zo 18 1 (.aload 0) :: zz 19 3 (.invokevirtual 8) jM_goOn 1 :: zo 22 1 (.aload 0) :: zz 23 3 (.invokevirtual 8) jM_begin 1 :: zk 26 1 (.iconst 0) 0 :: zo 27 1 (.istore 1) :: kM_tickOnce_28
def mM_tickOnce : zMe := (yX7_tickOnce, cX7_tickOnce, 2, none, 4, 93, kM_tickOnce_0)
def kM_ticks_29 : zCd := zk 29 1 (.iconst 0) 0 :: zx 30 1 .ireturn 0 :: []
def kM_ticks_14 : zCd := zo 14 1 (.iload 2) :: zo 15 1 (.iload 1) :: zx 16 3 (.if_icmp .ge 0) 29 :: zo 19 1 (.aload 0) :: zz 20 3 (.invokevirtual 8) jM_tickOnce 1 :: zk 23 3 (.iinc 2 0) 1 :: zx 26 3 (.goto 0) 14 :: kM_ticks_29
def kM_ticks_12 : zCd := zk 12 1 (.iconst 0) 0 :: zo 13 1 (.istore 2) :: kM_ticks_14
def kM_ticks_0 : zCd := zo 0 1 (.iload 1) :: zk 1 1 (.iconst 0) 1 :: zk 2 2 (.iconst 0) (nI 50) :: zz 4 3 (.invokestatic 0) jM_in 3 :: zx 7 3 (.ifCond .ne 0) 12 :: zk 10 1 (.iconst 0) 1 :: zx 11 1 .ireturn 0 :: kM_ticks_12
def mM_ticks : zMe := (yX7_ticks, cX7_ticks, 3, (Option.some Jvm.ClassFile.FieldType.int), 5, 114, kM_ticks_0)
def kM_done_26 : zCd := zx 26 1 .ireturn 1 :: []
def kM_done_25 : zCd := zk 25 1 (.iconst 0) 0 :: kM_done_26
def kM_done_17 : zCd := zo 17 1 (.iload 1) :: zx 18 3 (.ifCond .ne 0) 25 :: zk 21 1 (.iconst 0) 1 :: zx 22 3 (.goto 0) 26 :: kM_done_25
def kM_done_0 : zCd := zo 0 1 (.aload 0) :: zo 1 1 (.iload 1) :: zz 2 3 (.putfield 0) 8 6 :: zo 5 1 (.iload 1) :: zx 6 3 (.ifCond .ne 0) 17 :: zo 9 1 (.aload 0) :: zo 10 1 (.aload 0) :: zz 11 3 (.getfield 0) 8 2 :: zz 14 3 (.invokevirtual 8) jM_keepAs 2 :: kM_done_17
def mM_done : zMe := (yX7_done, cX7_done, 2, (Option.some Jvm.ClassFile.FieldType.boolean), 1, 22, kM_done_0)
def kM_addNode_26 : zCd := zx 26 1 .ireturn 0 :: []
def kM_addNode_25 : zCd := zk 25 1 (.iconst 0) 0 :: kM_addNode_26
def kM_addNode_0 : zCd := zo 0 1 (.aload 0) :: zz 1 3 (.invokevirtual 8) jM_putAside 1 :: zo 4 1 (.aload 0) :: zz 5 3 (.invokevirtual 8) jM_freeNode 1 :: zo 8 1 (.istore 2) :: zo 9 1 (.aload 0) :: zo 10 1 (.aload 0) :: zo 11 1 (.iload 1) :: zz 12 3 (.invokevirtual 8) jM_adds 2 :: zz 15 3 (.invokevirtual 8) jM_done 2 :: zx 18 3 (.ifCond .eq 0) 25 :: zo 21 1 (.iload 2) :: zx 22 3 (.goto 0) 26 :: kM_addNode_25
def mM_addNode : zMe := (yX7_addNode, cX7_addNode, 3, (Option.some Jvm.ClassFile.FieldType.int), 3, 65, kM_addNode_0)
def kM_drain_25 : zCd := zx 25 1 .ireturn 0 :: []
def kM_drain_24 : zCd := zk 24 1 (.iconst 0) 0 :: kM_drain_25
def kM_drain_0 : zCd := zo 0 1 (.aload 0) :: zz 1 3 (.invokevirtual 8) jM_putAside 1 :: zo 4 1 (.aload 0) :: zo 5 1 (.aload 0) :: zo 6 1 (.iload 1) :: zz 7 3 (.invokevirtual 8) jM_drains 2 :: zz 10 3 (.invokevirtual 8) jM_done 2 :: zx 13 3 (.ifCond .eq 0) 24 :: zo 16 1 (.aload 0) :: zo 17 1 (.iload 1) :: zz 18 3 (.invokevirtual 8) jM_owned 2 :: zx 21 3 (.goto 0) 25 :: kM_drain_24
def mM_drain : zMe := (yX7_drain, cX7_drain, 2, (Option.some Jvm.ClassFile.FieldType.int), 4, 84, kM_drain_0)
def kM_fail_25 : zCd := zx 25 1 .ireturn 0 :: []
def kM_fail_24 : zCd := zk 24 1 (.iconst 0) 0 :: kM_fail_25
def kM_fail_0 : zCd := zo 0 1 (.aload 0) :: zz 1 3 (.invokevirtual 8) jM_putAside 1 :: zo 4 1 (.aload 0) :: zo 5 1 (.aload 0) :: zo 6 1 (.iload 1) :: zz 7 3 (.invokevirtual 8) jM_fails 2 :: zz 10 3 (.invokevirtual 8) jM_done 2 :: zx 13 3 (.ifCond .eq 0) 24 :: zo 16 1 (.aload 0) :: zo 17 1 (.iload 1) :: zz 18 3 (.invokevirtual 8) jM_owned 2 :: zx 21 3 (.goto 0) 25 :: kM_fail_24
def mM_fail : zMe := (yX7_fail, cX7_fail, 2, (Option.some Jvm.ClassFile.FieldType.int), 4, 84, kM_fail_0)
def kM_recover_29 : zCd := zx 29 1 .ireturn 0 :: []
def kM_recover_28 : zCd := zk 28 1 (.iconst 0) 0 :: kM_recover_29
def kM_recover_0 : zCd := zo 0 1 (.aload 0) :: zz 1 3 (.invokevirtual 8) jM_putAside 1 :: zo 4 1 (.aload 0) :: zo 5 1 (.aload 0) :: zo 6 1 (.iload 1) :: zz 7 3 (.invokevirtual 8) jM_recovers 2 :: zz 10 3 (.invokevirtual 8) jM_done 2 :: zx 13 3 (.ifCond .eq 0) 28 :: zo 16 1 (.aload 0) :: zz 17 3 (.getfield 0) 8 2 :: zk 20 2 (.iconst 0) (nI 12) :: zo 22 1 (.iload 1) :: zo 23 1 .iadd :: zo 24 1 .iaload :: zx 25 3 (.goto 0) 29 :: kM_recover_28
def mM_recover : zMe := (yX7_recover, cX7_recover, 2, (Option.some Jvm.ClassFile.FieldType.int), 4, 84, kM_recover_0)
def kM_setWeight_30 : zCd := zx 30 1 .ireturn 0 :: []
def kM_setWeight_29 : zCd := zk 29 1 (.iconst 0) 0 :: kM_setWeight_30
def kM_setWeight_0 : zCd := zo 0 1 (.aload 0) :: zz 1 3 (.invokevirtual 8) jM_putAside 1 :: zo 4 1 (.aload 0) :: zo 5 1 (.aload 0) :: zo 6 1 (.iload 1) :: zo 7 1 (.iload 2) :: zz 8 3 (.invokevirtual 8) jM_weighs 3 :: zz 11 3 (.invokevirtual 8) jM_done 2 :: zx 14 3 (.ifCond .eq 0) 29 :: zo 17 1 (.aload 0) :: zz 18 3 (.getfield 0) 8 2 :: zk 21 2 (.iconst 0) (nI 20) :: zo 23 1 (.iload 1) :: zo 24 1 .iadd :: zo 25 1 .iaload :: zx 26 3 (.goto 0) 30 :: kM_setWeight_29
def mM_setWeight : zMe := (yX7_setWeight, cX7_setWeight, 3, (Option.some Jvm.ClassFile.FieldType.int), 4, 85, kM_setWeight_0)
def kM_set_63 : zCd := zo 63 1 (.aload 0) :: zo 64 1 (.aload 0) :: zz 65 3 (.getfield 0) 8 0 :: zz 68 3 (.invokevirtual 8) jM_keepAs 2 :: zo 71 1 (.aload 0) :: zz 72 3 (.getfield 0) 8 0 :: zk 75 1 (.iconst 0) 0 :: zo 76 1 (.iload 1) :: zo 77 1 .iadd :: zo 78 1 .iaload :: zo 79 2 (.istore 5) :: zo 81 1 (.aload 0) :: zz 82 3 (.getfield 0) 8 0 :: zk 85 1 (.iconst 0) 0 :: zo 86 1 (.iload 1) :: zo 87 1 .iadd :: zo 88 1 (.iload 2) :: zo 89 1 .iastore :: zo 90 2 (.iload 5) :: zx 92 1 .ireturn 0 :: []
def kM_set_57 : zCd := zo 57 1 (.aload 0) :: zk 58 1 (.iconst 0) 1 :: zz 59 3 (.invokevirtual 8) jM_refuse 2 :: zx 62 1 .ireturn 0 :: kM_set_63
def kM_set_36 : zCd := zo 36 2 (.istore 4) :: zo 38 1 (.iload 1) :: zk 39 1 (.iconst 0) 0 :: zk 40 1 (.iconst 0) (nI 2) :: zz 41 3 (.invokestatic 0) jM_in 3 :: zx 44 3 (.ifCond .eq 0) 57 :: zo 47 1 (.iload 2) :: zo 48 1 (.iload 3) :: zo 49 2 (.iload 4) :: zz 51 3 (.invokestatic 0) jM_in 3 :: zx 54 3 (.ifCond .ne 0) 63 :: kM_set_57
def kM_set_34 : zCd := zk 34 2 (.iconst 0) (nI 20) :: kM_set_36
def kM_set_24 : zCd := zo 24 1 (.iload 1) :: zk 25 1 (.iconst 0) 1 :: zx 26 3 (.if_icmp .ne 0) 34 :: zk 29 2 (.iconst 0) (nI 8) :: zx 31 3 (.goto 0) 36 :: kM_set_34
def kM_set_14 : zCd := zo 14 1 (.istore 3) :: zo 15 1 (.iload 1) :: zx 16 3 (.ifCond .ne 0) 24 :: zk 19 2 (.iconst 0) (nI 100) :: zx 21 3 (.goto 0) 36 :: kM_set_24
def kM_set_13 : zCd := zk 13 1 (.iconst 0) 1 :: kM_set_14
def kM_set_0 : zCd := zo 0 1 (.aload 0) :: zk 1 1 (.iconst 0) 0 :: zz 2 3 (.putfield 0) 8 6 :: zo 5 1 (.iload 1) :: zx 6 3 (.ifCond .ne 0) 13 :: zk 9 1 (.iconst 0) 0 :: zx 10 3 (.goto 0) 14 :: kM_set_13
def mM_set : zMe := (yX7_set, cX7_set, 6, (Option.some Jvm.ClassFile.FieldType.int), 1, 22, kM_set_0)
def kM_pendingNow_58 : zCd := zo 58 1 (.iload 1) :: zx 59 1 .ireturn 0 :: []
def kM_pendingNow_50 : zCd := zo 50 1 .iadd :: zo 51 1 (.istore 1) :: zk 52 3 (.iinc 2 0) 1 :: zx 55 3 (.goto 0) 8 :: kM_pendingNow_58
def kM_pendingNow_49 : zCd := zk 49 1 (.iconst 0) 0 :: kM_pendingNow_50
def kM_pendingNow_45 : zCd := zk 45 1 (.iconst 0) 1 :: zx 46 3 (.goto 0) 50 :: kM_pendingNow_49
def kM_pendingNow_8 : zCd := zo 8 1 (.iload 2) :: zk 9 2 (.iconst 0) (nI 32) :: zx 11 3 (.if_icmp .ge 0) 58 :: zo 14 1 (.iload 1) :: zo 15 1 (.aload 0) :: zz 16 3 (.getfield 0) 8 0 :: zk 19 2 (.iconst 0) (nI 28) :: zo 21 1 (.iload 2) :: zo 22 1 .iadd :: zo 23 1 .iaload :: zx 24 3 (.ifCond .lt 0) 45 :: zo 27 1 (.aload 0) :: zz 28 3 (.getfield 0) 8 0 :: zk 31 2 (.iconst 0) (nI 28) :: zo 33 1 (.iload 2) :: zo 34 1 .iadd :: zo 35 1 .iaload :: zo 36 1 (.aload 0) :: zz 37 3 (.getfield 0) 8 14 :: zo 40 1 (.iload 2) :: zo 41 1 .iaload :: zx 42 3 (.if_icmp .eq 0) 49 :: kM_pendingNow_45
def kM_pendingNow_0 : zCd := zo 0 1 (.aload 0) :: zz 1 3 (.invokevirtual 8) jM_layTargets 1 :: zk 4 1 (.iconst 0) 0 :: zo 5 1 (.istore 1) :: zk 6 1 (.iconst 0) 0 :: zo 7 1 (.istore 2) :: kM_pendingNow_8
def mM_pendingNow : zMe := (yX7_pendingNow, cX7_pendingNow, 3, (Option.some Jvm.ClassFile.FieldType.int), 3, 71, kM_pendingNow_0)
def kM_tick_26 : zCd := zx 26 1 .ireturn 0 :: []
def kM_tick_25 : zCd := zk 25 1 (.iconst 0) 0 :: kM_tick_26
def kM_tick_0 : zCd := zo 0 1 (.aload 0) :: zz 1 3 (.invokevirtual 8) jM_putAside 1 :: zo 4 1 (.aload 0) :: zo 5 1 (.aload 0) :: zo 6 1 (.iload 1) :: zz 7 3 (.invokevirtual 8) jM_ticks 2 :: zz 10 3 (.invokevirtual 8) jM_done 2 :: zx 13 3 (.ifCond .eq 0) 25 :: zo 16 1 (.aload 0) :: zz 17 3 (.getfield 0) 8 0 :: zk 20 1 (.iconst 0) (nI 3) :: zo 21 1 .iaload :: zx 22 3 (.goto 0) 26 :: kM_tick_25
def mM_tick : zMe := (yX7_tick, cX7_tick, 2, (Option.some Jvm.ClassFile.FieldType.int), 6, 136, kM_tick_0)
def kM_node_183 : zCd := zo 183 1 (.aload 0) :: zo 184 1 (.iload 1) :: zz 185 3 (.invokevirtual 8) jM_comingTo 2 :: zx 188 1 .ireturn 0 :: []
def kM_node_181 : zCd := zo 181 1 (.iload 3) :: zx 182 1 .ireturn 0 :: kM_node_183
def kM_node_174 : zCd := zo 174 1 (.aload 0) :: zz 175 3 (.getfield 0) 8 16 :: zo 178 1 (.iload 1) :: zo 179 1 .iaload :: zx 180 1 .ireturn 0 :: kM_node_181
def kM_node_168 : zCd := zo 168 1 (.aload 0) :: zo 169 1 (.iload 1) :: zz 170 3 (.invokevirtual 8) jM_owned 2 :: zx 173 1 .ireturn 0 :: kM_node_174
def kM_node_161 : zCd := zo 161 1 (.aload 0) :: zz 162 3 (.getfield 0) 8 13 :: zo 165 1 (.iload 1) :: zo 166 1 .iaload :: zx 167 1 .ireturn 0 :: kM_node_168
def kM_node_160 : zCd := zx 160 1 .ireturn 0 :: kM_node_161
def kM_node_151 : zCd := zo 151 1 (.aload 0) :: zz 152 3 (.getfield 0) 8 0 :: zk 155 2 (.iconst 0) (nI 20) :: zo 157 1 (.iload 1) :: zo 158 1 .iadd :: zo 159 1 .iaload :: kM_node_160
def kM_node_138 : zCd := zo 138 1 (.aload 0) :: zo 139 1 (.iload 1) :: zk 140 1 (.iconst 0) 0 :: zz 141 3 (.invokevirtual 8) jM_is 3 :: zx 144 3 (.ifCond .eq 0) 151 :: zk 147 1 (.iconst 0) 0 :: zx 148 3 (.goto 0) 160 :: kM_node_151
def kM_node_128 : zCd := zo 128 1 (.aload 0) :: zz 129 3 (.getfield 0) 8 0 :: zk 132 2 (.iconst 0) (nI 12) :: zo 134 1 (.iload 1) :: zo 135 1 .iadd :: zo 136 1 .iaload :: zx 137 1 .ireturn 0 :: kM_node_138
def kM_node_89 : zCd := zo 89 1 (.iload 2) :: zs 90 38 (.tableswitch 0 0 0 #[]) 183 [(0, 128), (1, 138), ((nI 2), 161), ((nI 3), 168), ((nI 4), 174), ((nI 5), 181)] :: kM_node_128
def kM_node_81 : zCd := zo 81 1 .iadd :: zo 82 1 (.istore 3) :: zk 83 3 (.iinc 4 0) 1 :: zx 86 3 (.goto 0) 48 :: kM_node_89
def kM_node_80 : zCd := zk 80 1 (.iconst 0) 0 :: kM_node_81
def kM_node_48 : zCd := zo 48 2 (.iload 4) :: zk 50 2 (.iconst 0) (nI 32) :: zx 52 3 (.if_icmp .ge 0) 89 :: zo 55 1 (.iload 3) :: zo 56 1 (.aload 0) :: zz 57 3 (.getfield 0) 8 0 :: zk 60 2 (.iconst 0) (nI 28) :: zo 62 2 (.iload 4) :: zo 64 1 .iadd :: zo 65 1 .iaload :: zo 66 1 (.iload 1) :: zx 67 3 (.if_icmp .ne 0) 80 :: zo 70 1 (.aload 0) :: zz 71 3 (.getfield 0) 8 7 :: zo 74 2 (.iload 4) :: zo 76 1 .iaload :: zx 77 3 (.goto 0) 81 :: kM_node_80
def kM_node_39 : zCd := zo 39 1 (.aload 0) :: zz 40 3 (.invokevirtual 8) jM_layTargets 1 :: zk 43 1 (.iconst 0) 0 :: zo 44 1 (.istore 3) :: zk 45 1 (.iconst 0) 0 :: zo 46 2 (.istore 4) :: kM_node_48
def kM_node_27 : zCd := zz 27 3 (.putfield 0) 8 6 :: zo 30 1 (.aload 0) :: zz 31 3 (.getfield 0) 8 6 :: zx 34 3 (.ifCond .le 0) 39 :: zk 37 1 (.iconst 0) 0 :: zx 38 1 .ireturn 0 :: kM_node_39
def kM_node_26 : zCd := zk 26 1 (.iconst 0) 0 :: kM_node_27
def kM_node_12 : zCd := zo 12 1 (.iload 2) :: zk 13 1 (.iconst 0) 0 :: zk 14 2 (.iconst 0) (nI 6) :: zz 16 3 (.invokestatic 0) jM_in 3 :: zx 19 3 (.ifCond .ne 0) 26 :: zk 22 1 (.iconst 0) (nI 2) :: zx 23 3 (.goto 0) 27 :: kM_node_26
def kM_node_0 : zCd := zo 0 1 (.aload 0) :: zo 1 1 (.iload 1) :: zz 2 3 (.invokestatic 0) jM_isNode 1 :: zx 5 3 (.ifCond .ne 0) 12 :: zk 8 1 (.iconst 0) 1 :: zx 9 3 (.goto 0) 27 :: kM_node_12
def mM_node : zMe := (yX7_node, cX7_node, 5, (Option.some Jvm.ClassFile.FieldType.int), 3, 71, kM_node_0)
def kM_nodes_60 : zCd := zo 60 1 (.iload 2) :: zx 61 1 .ireturn 0 :: []
def kM_nodes_52 : zCd := zo 52 1 .ior :: zo 53 1 (.istore 2) :: zk 54 3 (.iinc 3 0) 1 :: zx 57 3 (.goto 0) 22 :: kM_nodes_60
def kM_nodes_51 : zCd := zk 51 1 (.iconst 0) 0 :: kM_nodes_52
def kM_nodes_22 : zCd := zo 22 1 (.iload 3) :: zk 23 2 (.iconst 0) (nI 8) :: zx 25 3 (.if_icmp .ge 0) 60 :: zo 28 1 (.aload 0) :: zz 29 3 (.getfield 0) 8 6 :: zx 32 3 (.ifCond .ne 0) 60 :: zo 35 1 (.iload 2) :: zo 36 1 (.aload 0) :: zo 37 1 (.iload 3) :: zo 38 1 (.iload 1) :: zz 39 3 (.invokevirtual 8) jM_is 3 :: zx 42 3 (.ifCond .eq 0) 51 :: zk 45 1 (.iconst 0) 1 :: zo 46 1 (.iload 3) :: zo 47 1 .ishl :: zx 48 3 (.goto 0) 52 :: kM_nodes_51
def kM_nodes_15 : zCd := zz 15 3 (.putfield 0) 8 6 :: zk 18 1 (.iconst 0) 0 :: zo 19 1 (.istore 2) :: zk 20 1 (.iconst 0) 0 :: zo 21 1 (.istore 3) :: kM_nodes_22
def kM_nodes_14 : zCd := zk 14 1 (.iconst 0) 1 :: kM_nodes_15
def kM_nodes_0 : zCd := zo 0 1 (.aload 0) :: zo 1 1 (.iload 1) :: zk 2 1 (.iconst 0) 0 :: zk 3 1 (.iconst 0) (nI 3) :: zz 4 3 (.invokestatic 0) jM_in 3 :: zx 7 3 (.ifCond .eq 0) 14 :: zk 10 1 (.iconst 0) 0 :: zx 11 3 (.goto 0) 15 :: kM_nodes_14
def mM_nodes : zMe := (yX7_nodes, cX7_nodes, 4, (Option.some Jvm.ClassFile.FieldType.int), 1, 22, kM_nodes_0)
def kM_points_0 : zCd := zo 0 1 (.aload 0) :: zk 1 1 (.iconst 0) 0 :: zz 2 3 (.putfield 0) 8 6 :: zo 5 1 (.aload 0) :: zz 6 3 (.invokevirtual 8) jM_layRing 1 :: zo 9 1 (.aload 0) :: zz 10 3 (.getfield 0) 8 9 :: zx 13 1 .ireturn 0 :: []
def mM_points : zMe := (yX7_points, cX7_points, 1, (Option.some Jvm.ClassFile.FieldType.int), 2, 46, kM_points_0)
def kM_point_84 : zCd := zx 84 1 .ireturn 0 :: []
def kM_point_78 : zCd := zo 78 1 (.aload 0) :: zz 79 3 (.getfield 0) 8 12 :: zo 82 1 (.iload 1) :: zo 83 1 .iaload :: kM_point_84
def kM_point_64 : zCd := zo 64 1 (.iload 2) :: zk 65 1 (.iconst 0) 1 :: zx 66 3 (.if_icmp .ne 0) 78 :: zo 69 1 (.aload 0) :: zz 70 3 (.getfield 0) 8 11 :: zo 73 1 (.iload 1) :: zo 74 1 .iaload :: zx 75 3 (.goto 0) 84 :: kM_point_78
def kM_point_51 : zCd := zo 51 1 (.iload 2) :: zx 52 3 (.ifCond .ne 0) 64 :: zo 55 1 (.aload 0) :: zz 56 3 (.getfield 0) 8 10 :: zo 59 1 (.iload 1) :: zo 60 1 .iaload :: zx 61 3 (.goto 0) 84 :: kM_point_64
def kM_point_37 : zCd := zz 37 3 (.putfield 0) 8 6 :: zo 40 1 (.aload 0) :: zz 41 3 (.getfield 0) 8 6 :: zx 44 3 (.ifCond .le 0) 51 :: zk 47 1 (.iconst 0) 0 :: zx 48 3 (.goto 0) 84 :: kM_point_51
def kM_point_36 : zCd := zk 36 1 (.iconst 0) 0 :: kM_point_37
def kM_point_23 : zCd := zo 23 1 (.iload 2) :: zk 24 1 (.iconst 0) 0 :: zk 25 1 (.iconst 0) (nI 2) :: zz 26 3 (.invokestatic 0) jM_in 3 :: zx 29 3 (.ifCond .ne 0) 36 :: zk 32 1 (.iconst 0) (nI 2) :: zx 33 3 (.goto 0) 37 :: kM_point_36
def kM_point_0 : zCd := zo 0 1 (.aload 0) :: zz 1 3 (.invokevirtual 8) jM_layRing 1 :: zo 4 1 (.aload 0) :: zo 5 1 (.iload 1) :: zk 6 1 (.iconst 0) 0 :: zo 7 1 (.aload 0) :: zz 8 3 (.getfield 0) 8 9 :: zk 11 1 (.iconst 0) 1 :: zo 12 1 .isub :: zz 13 3 (.invokestatic 0) jM_in 3 :: zx 16 3 (.ifCond .ne 0) 23 :: zk 19 1 (.iconst 0) 1 :: zx 20 3 (.goto 0) 37 :: kM_point_23
def mM_point : zMe := (yX7_point, cX7_point, 3, (Option.some Jvm.ClassFile.FieldType.int), 2, 46, kM_point_0)
def kM_successor_51 : zCd := zx 51 1 .ireturn 0 :: []
def kM_successor_46 : zCd := zo 46 1 (.aload 0) :: zo 47 1 (.iload 1) :: zz 48 3 (.invokevirtual 8) jM_successorOf 2 :: kM_successor_51
def kM_successor_32 : zCd := zz 32 3 (.putfield 0) 8 6 :: zo 35 1 (.aload 0) :: zz 36 3 (.getfield 0) 8 6 :: zx 39 3 (.ifCond .le 0) 46 :: zk 42 1 (.iconst 0) 0 :: zx 43 3 (.goto 0) 51 :: kM_successor_46
def kM_successor_31 : zCd := zk 31 1 (.iconst 0) 0 :: kM_successor_32
def kM_successor_20 : zCd := zo 20 1 (.aload 0) :: zz 21 3 (.getfield 0) 8 9 :: zx 24 3 (.ifCond .ne 0) 31 :: zk 27 1 (.iconst 0) (nI 2) :: zx 28 3 (.goto 0) 32 :: kM_successor_31
def kM_successor_0 : zCd := zo 0 1 (.aload 0) :: zz 1 3 (.invokevirtual 8) jM_layRing 1 :: zo 4 1 (.aload 0) :: zo 5 1 (.iload 1) :: zk 6 1 (.iconst 0) 0 :: zk 7 3 (.iconst 0) (nI 1023) :: zz 10 3 (.invokestatic 0) jM_in 3 :: zx 13 3 (.ifCond .ne 0) 20 :: zk 16 1 (.iconst 0) 1 :: zx 17 3 (.goto 0) 32 :: kM_successor_20
def mM_successor : zMe := (yX7_successor, cX7_successor, 2, (Option.some Jvm.ClassFile.FieldType.int), 2, 46, kM_successor_0)
def kM_shard_165 : zCd := zo 165 1 (.aload 0) :: zz 166 3 (.getfield 0) 8 15 :: zo 169 1 (.iload 1) :: zo 170 1 .iaload :: zx 171 1 .ireturn 0 :: []
def kM_shard_159 : zCd := zo 159 1 (.aload 0) :: zo 160 1 (.iload 1) :: zz 161 3 (.invokevirtual 8) jM_moveOf 2 :: zx 164 1 .ireturn 0 :: kM_shard_165
def kM_shard_158 : zCd := zx 158 1 .ireturn 0 :: kM_shard_159
def kM_shard_157 : zCd := zk 157 1 (.iconst 0) 0 :: kM_shard_158
def kM_shard_145 : zCd := zo 145 1 (.aload 0) :: zo 146 1 (.iload 1) :: zz 147 3 (.invokevirtual 8) jM_isServed 2 :: zx 150 3 (.ifCond .eq 0) 157 :: zk 153 1 (.iconst 0) 1 :: zx 154 3 (.goto 0) 158 :: kM_shard_157
def kM_shard_144 : zCd := zx 144 1 .ireturn 0 :: kM_shard_145
def kM_shard_135 : zCd := zo 135 1 (.aload 0) :: zz 136 3 (.getfield 0) 8 0 :: zk 139 2 (.iconst 0) (nI 60) :: zo 141 1 (.iload 1) :: zo 142 1 .iadd :: zo 143 1 .iaload :: kM_shard_144
def kM_shard_119 : zCd := zo 119 1 (.aload 0) :: zz 120 3 (.getfield 0) 8 0 :: zk 123 2 (.iconst 0) (nI 28) :: zo 125 1 (.iload 1) :: zo 126 1 .iadd :: zo 127 1 .iaload :: zx 128 3 (.ifCond .ge 0) 135 :: zk 131 1 (.iconst 0) (-1) :: zx 132 3 (.goto 0) 144 :: kM_shard_135
def kM_shard_109 : zCd := zo 109 1 (.aload 0) :: zz 110 3 (.getfield 0) 8 0 :: zk 113 2 (.iconst 0) (nI 28) :: zo 115 1 (.iload 1) :: zo 116 1 .iadd :: zo 117 1 .iaload :: zx 118 1 .ireturn 0 :: kM_shard_119
def kM_shard_102 : zCd := zo 102 1 (.aload 0) :: zz 103 3 (.getfield 0) 8 14 :: zo 106 1 (.iload 1) :: zo 107 1 .iaload :: zx 108 1 .ireturn 0 :: kM_shard_109
def kM_shard_95 : zCd := zo 95 1 (.aload 0) :: zz 96 3 (.getfield 0) 8 7 :: zo 99 1 (.iload 1) :: zo 100 1 .iaload :: zx 101 1 .ireturn 0 :: kM_shard_102
def kM_shard_88 : zCd := zo 88 1 (.aload 0) :: zz 89 3 (.getfield 0) 8 8 :: zo 92 1 (.iload 1) :: zo 93 1 .iaload :: zx 94 1 .ireturn 0 :: kM_shard_95
def kM_shard_42 : zCd := zo 42 1 (.aload 0) :: zz 43 3 (.invokevirtual 8) jM_layTargets 1 :: zo 46 1 (.iload 2) :: zs 47 41 (.tableswitch 0 0 0 #[]) 165 [(0, 88), (1, 95), ((nI 2), 102), ((nI 3), 109), ((nI 4), 119), ((nI 5), 145), ((nI 6), 159)] :: kM_shard_88
def kM_shard_30 : zCd := zz 30 3 (.putfield 0) 8 6 :: zo 33 1 (.aload 0) :: zz 34 3 (.getfield 0) 8 6 :: zx 37 3 (.ifCond .le 0) 42 :: zk 40 1 (.iconst 0) 0 :: zx 41 1 .ireturn 0 :: kM_shard_42
def kM_shard_29 : zCd := zk 29 1 (.iconst 0) 0 :: kM_shard_30
def kM_shard_15 : zCd := zo 15 1 (.iload 2) :: zk 16 1 (.iconst 0) 0 :: zk 17 2 (.iconst 0) (nI 7) :: zz 19 3 (.invokestatic 0) jM_in 3 :: zx 22 3 (.ifCond .ne 0) 29 :: zk 25 1 (.iconst 0) (nI 2) :: zx 26 3 (.goto 0) 30 :: kM_shard_29
def kM_shard_0 : zCd := zo 0 1 (.aload 0) :: zo 1 1 (.iload 1) :: zk 2 1 (.iconst 0) 0 :: zk 3 2 (.iconst 0) (nI 31) :: zz 5 3 (.invokestatic 0) jM_in 3 :: zx 8 3 (.ifCond .ne 0) 15 :: zk 11 1 (.iconst 0) 1 :: zx 12 3 (.goto 0) 30 :: kM_shard_15
def mM_shard : zMe := (yX7_shard, cX7_shard, 3, (Option.some Jvm.ClassFile.FieldType.int), 3, 71, kM_shard_0)
def kM_route_45 : zCd := zx 45 1 .ireturn 0 :: []
def kM_route_36 : zCd := zo 36 1 (.aload 0) :: zz 37 3 (.getfield 0) 8 0 :: zk 40 2 (.iconst 0) (nI 28) :: zo 42 1 (.iload 2) :: zo 43 1 .iadd :: zo 44 1 .iaload :: kM_route_45
def kM_route_22 : zCd := zz 22 3 (.putfield 0) 8 6 :: zo 25 1 (.aload 0) :: zz 26 3 (.getfield 0) 8 6 :: zx 29 3 (.ifCond .le 0) 36 :: zk 32 1 (.iconst 0) 0 :: zx 33 3 (.goto 0) 45 :: kM_route_36
def kM_route_21 : zCd := zk 21 1 (.iconst 0) 1 :: kM_route_22
def kM_route_0 : zCd := zo 0 1 (.iload 1) :: zz 1 3 (.invokestatic 0) jM_placeOf 1 :: zk 4 2 (.iconst 0) (nI 32) :: zo 6 1 .irem :: zo 7 1 (.istore 2) :: zo 8 1 (.aload 0) :: zo 9 1 (.aload 0) :: zo 10 1 (.iload 2) :: zz 11 3 (.invokevirtual 8) jM_isServed 2 :: zx 14 3 (.ifCond .eq 0) 21 :: zk 17 1 (.iconst 0) 0 :: zx 18 3 (.goto 0) 22 :: kM_route_21
def mM_route : zMe := (yX7_route, cX7_route, 3, (Option.some Jvm.ClassFile.FieldType.int), 2, 44, kM_route_0)
def kM_pending_0 : zCd := zo 0 1 (.aload 0) :: zk 1 1 (.iconst 0) 0 :: zz 2 3 (.putfield 0) 8 6 :: zo 5 1 (.aload 0) :: zz 6 3 (.invokevirtual 8) jM_pendingNow 1 :: zx 9 1 .ireturn 0 :: []
def mM_pending : zMe := (yX7_pending, cX7_pending, 1, (Option.some Jvm.ClassFile.FieldType.int), 4, 93, kM_pending_0)
def kM_changedIf_189 : zCd := zo 189 2 (.iload 4) :: zx 191 1 .ireturn 0 :: []
def kM_changedIf_180 : zCd := zo 180 1 .iadd :: zo 181 2 (.istore 4) :: zk 183 3 (.iinc 5 0) 1 :: zx 186 3 (.goto 0) 149 :: kM_changedIf_189
def kM_changedIf_179 : zCd := zk 179 1 (.iconst 0) 0 :: kM_changedIf_180
def kM_changedIf_149 : zCd := zo 149 2 (.iload 5) :: zk 151 2 (.iconst 0) (nI 32) :: zx 153 3 (.if_icmp .ge 0) 189 :: zo 156 2 (.iload 4) :: zo 158 1 (.aload 0) :: zz 159 3 (.getfield 0) 8 14 :: zo 162 2 (.iload 5) :: zo 164 1 .iaload :: zo 165 1 (.aload 0) :: zz 166 3 (.getfield 0) 8 17 :: zo 169 2 (.iload 5) :: zo 171 1 .iaload :: zx 172 3 (.if_icmp .eq 0) 179 :: zk 175 1 (.iconst 0) 1 :: zx 176 3 (.goto 0) 180 :: kM_changedIf_179
def kM_changedIf_118 : zCd := zo 118 1 .iastore :: zo 119 1 (.aload 0) :: zz 120 3 (.invokevirtual 8) jM_layTargets 1 :: zo 123 1 (.aload 0) :: zz 124 3 (.getfield 0) 8 0 :: zk 127 2 (.iconst 0) (nI 20) :: zo 129 1 (.iload 1) :: zo 130 1 .iadd :: zo 131 1 (.iload 3) :: zo 132 1 .iastore :: zo 133 1 (.aload 0) :: zz 134 3 (.getfield 0) 8 0 :: zk 137 2 (.iconst 0) (nI 12) :: zo 139 1 (.iload 1) :: zo 140 1 .iadd :: zk 141 1 (.iconst 0) 1 :: zo 142 1 .iastore :: zk 143 1 (.iconst 0) 0 :: zo 144 2 (.istore 4) :: zk 146 1 (.iconst 0) 0 :: zo 147 2 (.istore 5) :: kM_changedIf_149
def kM_changedIf_117 : zCd := zk 117 1 (.iconst 0) 1 :: kM_changedIf_118
def kM_changedIf_81 : zCd := zo 81 1 (.aload 0) :: zz 82 3 (.getfield 0) 8 0 :: zk 85 2 (.iconst 0) (nI 20) :: zo 87 1 (.iload 1) :: zo 88 1 .iadd :: zo 89 1 .iaload :: zo 90 1 (.istore 3) :: zo 91 1 (.aload 0) :: zz 92 3 (.getfield 0) 8 0 :: zk 95 2 (.iconst 0) (nI 20) :: zo 97 1 (.iload 1) :: zo 98 1 .iadd :: zo 99 1 (.iload 2) :: zo 100 1 .iastore :: zo 101 1 (.aload 0) :: zz 102 3 (.getfield 0) 8 0 :: zk 105 2 (.iconst 0) (nI 12) :: zo 107 1 (.iload 1) :: zo 108 1 .iadd :: zo 109 1 (.iload 2) :: zx 110 3 (.ifCond .ne 0) 117 :: zk 113 1 (.iconst 0) 0 :: zx 114 3 (.goto 0) 118 :: kM_changedIf_117
def kM_changedIf_57 : zCd := zo 57 1 (.iload 3) :: zk 58 2 (.iconst 0) (nI 32) :: zx 60 3 (.if_icmp .ge 0) 81 :: zo 63 1 (.aload 0) :: zz 64 3 (.getfield 0) 8 17 :: zo 67 1 (.iload 3) :: zo 68 1 (.aload 0) :: zz 69 3 (.getfield 0) 8 14 :: zo 72 1 (.iload 3) :: zo 73 1 .iaload :: zo 74 1 .iastore :: zk 75 3 (.iinc 3 0) 1 :: zx 78 3 (.goto 0) 57 :: kM_changedIf_81
def kM_changedIf_51 : zCd := zo 51 1 (.aload 0) :: zz 52 3 (.invokevirtual 8) jM_layTargets 1 :: zk 55 1 (.iconst 0) 0 :: zo 56 1 (.istore 3) :: kM_changedIf_57
def kM_changedIf_39 : zCd := zz 39 3 (.putfield 0) 8 6 :: zo 42 1 (.aload 0) :: zz 43 3 (.getfield 0) 8 6 :: zx 46 3 (.ifCond .le 0) 51 :: zk 49 1 (.iconst 0) 0 :: zx 50 1 .ireturn 0 :: kM_changedIf_51
def kM_changedIf_38 : zCd := zk 38 1 (.iconst 0) 0 :: kM_changedIf_39
def kM_changedIf_25 : zCd := zo 25 1 (.aload 0) :: zo 26 1 (.iload 1) :: zk 27 1 (.iconst 0) 1 :: zz 28 3 (.invokevirtual 8) jM_is 3 :: zx 31 3 (.ifCond .ne 0) 38 :: zk 34 1 (.iconst 0) (nI 3) :: zx 35 3 (.goto 0) 39 :: kM_changedIf_38
def kM_changedIf_12 : zCd := zo 12 1 (.iload 2) :: zk 13 1 (.iconst 0) 0 :: zk 14 1 (.iconst 0) (nI 5) :: zz 15 3 (.invokestatic 0) jM_in 3 :: zx 18 3 (.ifCond .ne 0) 25 :: zk 21 1 (.iconst 0) (nI 2) :: zx 22 3 (.goto 0) 39 :: kM_changedIf_25
def kM_changedIf_0 : zCd := zo 0 1 (.aload 0) :: zo 1 1 (.iload 1) :: zz 2 3 (.invokestatic 0) jM_isNode 1 :: zx 5 3 (.ifCond .ne 0) 12 :: zk 8 1 (.iconst 0) 1 :: zx 9 3 (.goto 0) 39 :: kM_changedIf_12
def mM_changedIf : zMe := (yX7_changedIf, cX7_changedIf, 6, (Option.some Jvm.ClassFile.FieldType.int), 3, 71, kM_changedIf_0)
def kM_isSkipping_37 : zCd := zo 37 1 (.iload 1) :: zx 38 1 .ireturn 1 :: []
def kM_isSkipping_29 : zCd := zo 29 1 .ior :: zo 30 1 (.istore 1) :: zk 31 3 (.iinc 2 0) 1 :: zx 34 3 (.goto 0) 8 :: kM_isSkipping_37
def kM_isSkipping_28 : zCd := zk 28 1 (.iconst 0) 0 :: kM_isSkipping_29
def kM_isSkipping_8 : zCd := zo 8 1 (.iload 2) :: zk 9 2 (.iconst 0) (nI 32) :: zx 11 3 (.if_icmp .ge 0) 37 :: zo 14 1 (.iload 1) :: zo 15 1 (.aload 0) :: zz 16 3 (.getfield 0) 8 15 :: zo 19 1 (.iload 2) :: zo 20 1 .iaload :: zx 21 3 (.ifCond .eq 0) 28 :: zk 24 1 (.iconst 0) 1 :: zx 25 3 (.goto 0) 29 :: kM_isSkipping_28
def kM_isSkipping_0 : zCd := zo 0 1 (.aload 0) :: zz 1 3 (.invokevirtual 8) jM_layTargets 1 :: zk 4 1 (.iconst 0) 0 :: zo 5 1 (.istore 1) :: zk 6 1 (.iconst 0) 0 :: zo 7 1 (.istore 2) :: kM_isSkipping_8
def mM_isSkipping : zMe := (yX7_isSkipping, cX7_isSkipping, 3, (Option.some Jvm.ClassFile.FieldType.boolean), 3, 71, kM_isSkipping_0)
def kM_leastSlack_99 : zCd := zx 99 1 .ireturn 0 :: []
def kM_leastSlack_98 : zCd := zo 98 1 (.iload 2) :: kM_leastSlack_99
def kM_leastSlack_84 : zCd := zo 84 1 (.iload 2) :: zk 85 2 (.iconst 0) (nI 100) :: zx 87 3 (.if_icmp .le 0) 98 :: zo 90 1 (.aload 0) :: zk 91 1 (.iconst 0) 1 :: zz 92 3 (.invokevirtual 8) jM_refuse 2 :: zx 95 3 (.goto 0) 99 :: kM_leastSlack_98
def kM_leastSlack_58 : zCd := zo 58 1 (.aload 0) :: zz 59 3 (.getfield 0) 8 0 :: zk 62 1 (.iconst 0) 0 :: zo 63 1 (.iload 1) :: zo 64 1 .iastore :: zo 65 1 (.aload 0) :: zz 66 3 (.invokevirtual 8) jM_layRing 1 :: zo 69 1 (.aload 0) :: zz 70 3 (.getfield 0) 8 9 :: zx 73 3 (.ifCond .ne 0) 84 :: zo 76 1 (.aload 0) :: zk 77 1 (.iconst 0) (nI 2) :: zz 78 3 (.invokevirtual 8) jM_refuse 2 :: zx 81 3 (.goto 0) 99 :: kM_leastSlack_84
def kM_leastSlack_25 : zCd := zo 25 1 (.aload 0) :: zz 26 3 (.getfield 0) 8 9 :: zx 29 3 (.ifCond .le 0) 58 :: zo 32 1 (.iload 2) :: zk 33 2 (.iconst 0) (nI 100) :: zx 35 3 (.if_icmp .gt 0) 58 :: zo 38 1 (.aload 0) :: zz 39 3 (.invokevirtual 8) jM_isSkipping 1 :: zx 42 3 (.ifCond .eq 0) 58 :: zk 45 3 (.iinc 2 0) 1 :: zo 48 1 (.aload 0) :: zz 49 3 (.getfield 0) 8 0 :: zk 52 1 (.iconst 0) 0 :: zo 53 1 (.iload 2) :: zo 54 1 .iastore :: zx 55 3 (.goto 0) 25 :: kM_leastSlack_58
def kM_leastSlack_0 : zCd := zo 0 1 (.aload 0) :: zk 1 1 (.iconst 0) 0 :: zz 2 3 (.putfield 0) 8 6 :: zo 5 1 (.aload 0) :: zz 6 3 (.invokevirtual 8) jM_layRing 1 :: zo 9 1 (.aload 0) :: zz 10 3 (.getfield 0) 8 0 :: zk 13 1 (.iconst 0) 0 :: zo 14 1 .iaload :: zo 15 1 (.istore 1) :: zk 16 1 (.iconst 0) 0 :: zo 17 1 (.istore 2) :: zo 18 1 (.aload 0) :: zz 19 3 (.getfield 0) 8 0 :: zk 22 1 (.iconst 0) 0 :: zk 23 1 (.iconst 0) 0 :: zo 24 1 .iastore :: kM_leastSlack_25
def mM_leastSlack : zMe := (yX7_leastSlack, cX7_leastSlack, 3, (Option.some Jvm.ClassFile.FieldType.int), 4, 93, kM_leastSlack_0)
def kM_moves_0 : zCd := zo 0 1 (.aload 0) :: zk 1 1 (.iconst 0) 0 :: zz 2 3 (.putfield 0) 8 6 :: zo 5 1 (.aload 0) :: zz 6 3 (.getfield 0) 8 0 :: zk 9 2 (.iconst 0) (nI 10) :: zo 11 1 .iaload :: zx 12 1 .ireturn 0 :: []
def mM_moves : zMe := (yX7_moves, cX7_moves, 1, (Option.some Jvm.ClassFile.FieldType.int), 0, 0, kM_moves_0)
def kM_move_56 : zCd := zx 56 1 .ireturn 0 :: []
def kM_move_50 : zCd := zo 50 1 (.aload 0) :: zo 51 1 (.iload 1) :: zo 52 1 (.iload 2) :: zz 53 3 (.invokevirtual 8) jM_of 3 :: kM_move_56
def kM_move_36 : zCd := zz 36 3 (.putfield 0) 8 6 :: zo 39 1 (.aload 0) :: zz 40 3 (.getfield 0) 8 6 :: zx 43 3 (.ifCond .le 0) 50 :: zk 46 1 (.iconst 0) 0 :: zx 47 3 (.goto 0) 56 :: kM_move_50
def kM_move_35 : zCd := zk 35 1 (.iconst 0) 0 :: kM_move_36
def kM_move_22 : zCd := zo 22 1 (.iload 2) :: zk 23 1 (.iconst 0) 0 :: zk 24 1 (.iconst 0) (nI 3) :: zz 25 3 (.invokestatic 0) jM_in 3 :: zx 28 3 (.ifCond .ne 0) 35 :: zk 31 1 (.iconst 0) (nI 2) :: zx 32 3 (.goto 0) 36 :: kM_move_35
def kM_move_0 : zCd := zo 0 1 (.aload 0) :: zo 1 1 (.iload 1) :: zk 2 1 (.iconst 0) 0 :: zo 3 1 (.aload 0) :: zz 4 3 (.getfield 0) 8 0 :: zk 7 2 (.iconst 0) (nI 10) :: zo 9 1 .iaload :: zk 10 1 (.iconst 0) 1 :: zo 11 1 .isub :: zz 12 3 (.invokestatic 0) jM_in 3 :: zx 15 3 (.ifCond .ne 0) 22 :: zk 18 1 (.iconst 0) 1 :: zx 19 3 (.goto 0) 36 :: kM_move_22
def mM_move : zMe := (yX7_move, cX7_move, 3, (Option.some Jvm.ClassFile.FieldType.int), 1, 22, kM_move_0)
def kM_forecast_55 : zCd := zx 55 1 .ireturn 0 :: []
def kM_forecast_54 : zCd := zo 54 1 (.iload 1) :: kM_forecast_55
def kM_forecast_35 : zCd := zo 35 1 (.aload 0) :: zz 36 3 (.invokevirtual 8) jM_takeBack 1 :: zo 39 1 (.iload 1) :: zk 40 3 (.iconst 0) (nI 300) :: zx 43 3 (.if_icmp .le 0) 54 :: zo 46 1 (.aload 0) :: zk 47 1 (.iconst 0) 1 :: zz 48 3 (.invokevirtual 8) jM_refuse 2 :: zx 51 3 (.goto 0) 55 :: kM_forecast_54
def kM_forecast_11 : zCd := zo 11 1 (.iload 1) :: zk 12 3 (.iconst 0) (nI 300) :: zx 15 3 (.if_icmp .gt 0) 35 :: zo 18 1 (.aload 0) :: zz 19 3 (.invokevirtual 8) jM_pendingNow 1 :: zx 22 3 (.ifCond .le 0) 35 :: zo 25 1 (.aload 0) :: zz 26 3 (.invokevirtual 8) jM_tickOnce 1 :: zk 29 3 (.iinc 1 0) 1 :: zx 32 3 (.goto 0) 11 :: kM_forecast_35
def kM_forecast_0 : zCd := zo 0 1 (.aload 0) :: zk 1 1 (.iconst 0) 0 :: zz 2 3 (.putfield 0) 8 6 :: zo 5 1 (.aload 0) :: zz 6 3 (.invokevirtual 8) jM_putAside 1 :: zk 9 1 (.iconst 0) 0 :: zo 10 1 (.istore 1) :: kM_forecast_11
def mM_forecast : zMe := (yX7_forecast, cX7_forecast, 2, (Option.some Jvm.ClassFile.FieldType.int), 5, 114, kM_forecast_0)
def kM_statistic_38 : zCd := zx 38 1 .ireturn 0 :: []
def kM_statistic_30 : zCd := zo 30 1 (.aload 0) :: zz 31 3 (.getfield 0) 8 0 :: zk 34 1 (.iconst 0) (nI 3) :: zo 35 1 (.iload 1) :: zo 36 1 .iadd :: zo 37 1 .iaload :: kM_statistic_38
def kM_statistic_16 : zCd := zz 16 3 (.putfield 0) 8 6 :: zo 19 1 (.aload 0) :: zz 20 3 (.getfield 0) 8 6 :: zx 23 3 (.ifCond .le 0) 30 :: zk 26 1 (.iconst 0) 0 :: zx 27 3 (.goto 0) 38 :: kM_statistic_30
def kM_statistic_15 : zCd := zk 15 1 (.iconst 0) 1 :: kM_statistic_16
def kM_statistic_0 : zCd := zo 0 1 (.aload 0) :: zo 1 1 (.iload 1) :: zk 2 1 (.iconst 0) 0 :: zk 3 2 (.iconst 0) (nI 6) :: zz 5 3 (.invokestatic 0) jM_in 3 :: zx 8 3 (.ifCond .eq 0) 15 :: zk 11 1 (.iconst 0) 0 :: zx 12 3 (.goto 0) 16 :: kM_statistic_15
def mM_statistic : zMe := (yX7_statistic, cX7_statistic, 2, (Option.some Jvm.ClassFile.FieldType.int), 1, 22, kM_statistic_0)
def kM_events_0 : zCd := zo 0 1 (.aload 0) :: zk 1 1 (.iconst 0) 0 :: zz 2 3 (.putfield 0) 8 6 :: zo 5 1 (.aload 0) :: zz 6 3 (.getfield 0) 8 0 :: zk 9 2 (.iconst 0) (nI 11) :: zo 11 1 .iaload :: zx 12 1 .ireturn 0 :: []
def mM_events : zMe := (yX7_events, cX7_events, 1, (Option.some Jvm.ClassFile.FieldType.int), 0, 0, kM_events_0)
def kM_event_64 : zCd := zx 64 1 .ireturn 0 :: []
def kM_event_50 : zCd := zo 50 1 (.aload 0) :: zz 51 3 (.getfield 0) 8 0 :: zk 54 3 (.iconst 0) (nI 220) :: zk 57 1 (.iconst 0) (nI 4) :: zo 58 1 (.iload 1) :: zo 59 1 .imul :: zo 60 1 .iadd :: zo 61 1 (.iload 2) :: zo 62 1 .iadd :: zo 63 1 .iaload :: kM_event_64
def kM_event_36 : zCd := zz 36 3 (.putfield 0) 8 6 :: zo 39 1 (.aload 0) :: zz 40 3 (.getfield 0) 8 6 :: zx 43 3 (.ifCond .le 0) 50 :: zk 46 1 (.iconst 0) 0 :: zx 47 3 (.goto 0) 64 :: kM_event_50
def kM_event_35 : zCd := zk 35 1 (.iconst 0) 0 :: kM_event_36
def kM_event_22 : zCd := zo 22 1 (.iload 2) :: zk 23 1 (.iconst 0) 0 :: zk 24 1 (.iconst 0) (nI 3) :: zz 25 3 (.invokestatic 0) jM_in 3 :: zx 28 3 (.ifCond .ne 0) 35 :: zk 31 1 (.iconst 0) (nI 2) :: zx 32 3 (.goto 0) 36 :: kM_event_35
def kM_event_0 : zCd := zo 0 1 (.aload 0) :: zo 1 1 (.iload 1) :: zk 2 1 (.iconst 0) 0 :: zo 3 1 (.aload 0) :: zz 4 3 (.getfield 0) 8 0 :: zk 7 2 (.iconst 0) (nI 11) :: zo 9 1 .iaload :: zk 10 1 (.iconst 0) 1 :: zo 11 1 .isub :: zz 12 3 (.invokestatic 0) jM_in 3 :: zx 15 3 (.ifCond .ne 0) 22 :: zk 18 1 (.iconst 0) 1 :: zx 19 3 (.goto 0) 36 :: kM_event_22
def mM_event : zMe := (yX7_event, cX7_event, 3, (Option.some Jvm.ClassFile.FieldType.int), 1, 22, kM_event_0)
def kM_forget_138 : zCd := zo 138 1 (.aload 0) :: zz 139 3 (.getfield 0) 8 0 :: zk 142 2 (.iconst 0) (nI 11) :: zo 144 1 .iaload :: zo 145 1 (.iload 2) :: zo 146 1 .isub :: zo 147 1 (.istore 3) :: zo 148 1 (.aload 0) :: zz 149 3 (.getfield 0) 8 0 :: zk 152 2 (.iconst 0) (nI 11) :: zo 154 1 (.iload 2) :: zo 155 1 .iastore :: zo 156 1 (.iload 3) :: zx 157 1 .ireturn 0 :: []
def kM_forget_130 : zCd := zo 130 1 .iadd :: zo 131 1 (.istore 2) :: zk 132 3 (.iinc 3 0) 1 :: zx 135 3 (.goto 0) 33 :: kM_forget_138
def kM_forget_129 : zCd := zk 129 1 (.iconst 0) 1 :: kM_forget_130
def kM_forget_119 : zCd := zo 119 1 (.iload 2) :: zo 120 2 (.iload 4) :: zx 122 3 (.ifCond .eq 0) 129 :: zk 125 1 (.iconst 0) 0 :: zx 126 3 (.goto 0) 130 :: kM_forget_129
def kM_forget_72 : zCd := zo 72 2 (.iload 5) :: zk 74 1 (.iconst 0) (nI 4) :: zx 75 3 (.if_icmp .ge 0) 119 :: zo 78 2 (.iload 4) :: zx 80 3 (.ifCond .ne 0) 119 :: zo 83 1 (.aload 0) :: zz 84 3 (.getfield 0) 8 0 :: zk 87 3 (.iconst 0) (nI 220) :: zk 90 1 (.iconst 0) (nI 4) :: zo 91 1 (.iload 2) :: zo 92 1 .imul :: zo 93 1 .iadd :: zo 94 2 (.iload 5) :: zo 96 1 .iadd :: zo 97 1 (.aload 0) :: zz 98 3 (.getfield 0) 8 0 :: zk 101 3 (.iconst 0) (nI 220) :: zk 104 1 (.iconst 0) (nI 4) :: zo 105 1 (.iload 3) :: zo 106 1 .imul :: zo 107 1 .iadd :: zo 108 2 (.iload 5) :: zo 110 1 .iadd :: zo 111 1 .iaload :: zo 112 1 .iastore :: zk 113 3 (.iinc 5 0) 1 :: zx 116 3 (.goto 0) 72 :: kM_forget_119
def kM_forget_67 : zCd := zo 67 2 (.istore 4) :: zk 69 1 (.iconst 0) 0 :: zo 70 2 (.istore 5) :: kM_forget_72
def kM_forget_66 : zCd := zk 66 1 (.iconst 0) 0 :: kM_forget_67
def kM_forget_33 : zCd := zo 33 1 (.iload 3) :: zo 34 1 (.aload 0) :: zz 35 3 (.getfield 0) 8 0 :: zk 38 2 (.iconst 0) (nI 11) :: zo 40 1 .iaload :: zx 41 3 (.if_icmp .ge 0) 138 :: zo 44 1 (.aload 0) :: zz 45 3 (.getfield 0) 8 0 :: zk 48 3 (.iconst 0) (nI 220) :: zk 51 1 (.iconst 0) (nI 4) :: zo 52 1 (.iload 3) :: zo 53 1 .imul :: zo 54 1 .iadd :: zk 55 1 (.iconst 0) (nI 2) :: zo 56 1 .iadd :: zo 57 1 .iaload :: zo 58 1 (.iload 1) :: zx 59 3 (.if_icmp .ne 0) 66 :: zk 62 1 (.iconst 0) 1 :: zx 63 3 (.goto 0) 67 :: kM_forget_66
def kM_forget_21 : zCd := zo 21 1 (.aload 0) :: zo 22 1 (.aload 0) :: zz 23 3 (.getfield 0) 8 0 :: zz 26 3 (.invokevirtual 8) jM_keepAs 2 :: zk 29 1 (.iconst 0) 0 :: zo 30 1 (.istore 2) :: zk 31 1 (.iconst 0) 0 :: zo 32 1 (.istore 3) :: kM_forget_33
def kM_forget_0 : zCd := zo 0 1 (.aload 0) :: zk 1 1 (.iconst 0) 0 :: zz 2 3 (.putfield 0) 8 6 :: zo 5 1 (.iload 1) :: zk 6 1 (.iconst 0) 0 :: zk 7 2 (.iconst 0) (nI 31) :: zz 9 3 (.invokestatic 0) jM_in 3 :: zx 12 3 (.ifCond .ne 0) 21 :: zo 15 1 (.aload 0) :: zk 16 1 (.iconst 0) 1 :: zz 17 3 (.invokevirtual 8) jM_refuse 2 :: zx 20 1 .ireturn 0 :: kM_forget_21
def mM_forget : zMe := (yX7_forget, cX7_forget, 6, (Option.some Jvm.ClassFile.FieldType.int), 1, 22, kM_forget_0)
def kM_feed_20 : zCd := zo 20 1 (.aload 0) :: zz 21 3 (.getfield 0) 8 19 :: zo 24 1 (.aload 0) :: zz 25 3 (.getfield 0) 8 18 :: zo 28 1 (.iload 1) :: zo 29 1 .iastore :: zo 30 1 (.aload 0) :: zo 31 1 .dup :: zz 32 3 (.getfield 0) 8 18 :: zk 35 1 (.iconst 0) 1 :: zo 36 1 .iadd :: zz 37 3 (.putfield 0) 8 18 :: zo 40 1 (.aload 0) :: zz 41 3 (.getfield 0) 8 18 :: zx 44 1 .ireturn 0 :: []
def kM_feed_0 : zCd := zo 0 1 (.aload 0) :: zk 1 1 (.iconst 0) 0 :: zz 2 3 (.putfield 0) 8 6 :: zo 5 1 (.aload 0) :: zz 6 3 (.getfield 0) 8 18 :: zk 9 2 (.iconst 0) (nI 60) :: zx 11 3 (.if_icmp .ne 0) 20 :: zo 14 1 (.aload 0) :: zk 15 1 (.iconst 0) 1 :: zz 16 3 (.invokevirtual 8) jM_refuse 2 :: zx 19 1 .ireturn 0 :: kM_feed_20
def mM_feed : zMe := (yX7_feed, cX7_feed, 2, (Option.some Jvm.ClassFile.FieldType.int), 1, 21, kM_feed_0)
def kM_here_24 : zCd := zx 24 1 .ireturn 0 :: []
def kM_here_23 : zCd := zk 23 1 (.iconst 0) (-1) :: kM_here_24
def kM_here_0 : zCd := zo 0 1 (.aload 0) :: zz 1 3 (.getfield 0) 8 20 :: zo 4 1 (.aload 0) :: zz 5 3 (.getfield 0) 8 18 :: zx 8 3 (.if_icmp .ge 0) 23 :: zo 11 1 (.aload 0) :: zz 12 3 (.getfield 0) 8 19 :: zo 15 1 (.aload 0) :: zz 16 3 (.getfield 0) 8 20 :: zo 19 1 .iaload :: zx 20 3 (.goto 0) 24 :: kM_here_23
def mM_here : zMe := (yX7_here, cX7_here, 1, (Option.some Jvm.ClassFile.FieldType.int), 0, 0, kM_here_0)
def kM_number_83 : zCd := zo 83 1 (.iload 1) :: zx 84 1 .ireturn 0 :: []
def kM_number_28 : zCd := zo 28 1 (.aload 0) :: zz 29 3 (.invokevirtual 8) jM_here 1 :: zk 32 2 (.iconst 0) (nI 48) :: zo 34 1 .isub :: zo 35 1 (.istore 1) :: zo 36 1 (.aload 0) :: zo 37 1 .dup :: zz 38 3 (.getfield 0) 8 20 :: zk 41 1 (.iconst 0) 1 :: zo 42 1 .iadd :: zz 43 3 (.putfield 0) 8 20 :: zo 46 1 (.aload 0) :: zz 47 3 (.invokevirtual 8) jM_here 1 :: zk 50 2 (.iconst 0) (nI 48) :: zk 52 2 (.iconst 0) (nI 57) :: zz 54 3 (.invokestatic 0) jM_in 3 :: zx 57 3 (.ifCond .eq 0) 83 :: zk 60 2 (.iconst 0) (nI 10) :: zo 62 1 (.iload 1) :: zo 63 1 .imul :: zo 64 1 (.aload 0) :: zz 65 3 (.invokevirtual 8) jM_here 1 :: zo 68 1 .iadd :: zk 69 2 (.iconst 0) (nI 48) :: zo 71 1 .isub :: zo 72 1 (.istore 1) :: zo 73 1 (.aload 0) :: zo 74 1 .dup :: zz 75 3 (.getfield 0) 8 20 :: zk 78 1 (.iconst 0) 1 :: zo 79 1 .iadd :: zz 80 3 (.putfield 0) 8 20 :: kM_number_83
def kM_number_21 : zCd := zo 21 1 (.aload 0) :: zk 22 1 (.iconst 0) 1 :: zz 23 3 (.putfield 0) 8 21 :: zk 26 1 (.iconst 0) 0 :: zx 27 1 .ireturn 0 :: kM_number_28
def kM_number_0 : zCd := zo 0 1 (.aload 0) :: zz 1 3 (.getfield 0) 8 21 :: zx 4 3 (.ifCond .ne 0) 21 :: zo 7 1 (.aload 0) :: zz 8 3 (.invokevirtual 8) jM_here 1 :: zk 11 2 (.iconst 0) (nI 48) :: zk 13 2 (.iconst 0) (nI 57) :: zz 15 3 (.invokestatic 0) jM_in 3 :: zx 18 3 (.ifCond .ne 0) 28 :: kM_number_21
def mM_number : zMe := (yX7_number, cX7_number, 2, (Option.some Jvm.ClassFile.FieldType.int), 1, 22, kM_number_0)
def kM_take_33 : zCd := zo 33 1 .return_ :: []
def kM_take_28 : zCd := zo 28 1 (.aload 0) :: zk 29 1 (.iconst 0) 1 :: zz 30 3 (.putfield 0) 8 21 :: kM_take_33
def kM_take_0 : zCd := zo 0 1 (.aload 0) :: zz 1 3 (.getfield 0) 8 21 :: zx 4 3 (.ifCond .ne 0) 28 :: zo 7 1 (.aload 0) :: zz 8 3 (.invokevirtual 8) jM_here 1 :: zo 11 1 (.iload 1) :: zx 12 3 (.if_icmp .ne 0) 28 :: zo 15 1 (.aload 0) :: zo 16 1 .dup :: zz 17 3 (.getfield 0) 8 20 :: zk 20 1 (.iconst 0) 1 :: zo 21 1 .iadd :: zz 22 3 (.putfield 0) 8 20 :: zx 25 3 (.goto 0) 33 :: kM_take_28
def mM_take : zMe := (yX7_take, cX7_take, 2, none, 1, 20, kM_take_0)
def kM_readCommand_129 : zCd := zo 129 1 (.aload 0) :: zk 130 2 (.iconst 0) (nI 59) :: zz 132 3 (.invokevirtual 8) jM_take 2 :: zo 135 1 (.aload 0) :: zo 136 1 .dup :: zz 137 3 (.getfield 0) 8 22 :: zk 140 1 (.iconst 0) 1 :: zo 141 1 .iadd :: zz 142 3 (.putfield 0) 8 22 :: zo 145 1 .return_ :: []
def kM_readCommand_67 : zCd := zo 67 1 .iadd :: zz 68 3 (.putfield 0) 8 20 :: zo 71 1 (.aload 0) :: zz 72 3 (.getfield 0) 8 23 :: zk 75 1 (.iconst 0) (nI 3) :: zo 76 1 (.aload 0) :: zz 77 3 (.getfield 0) 8 22 :: zo 80 1 .imul :: zo 81 1 (.iload 1) :: zo 82 1 .iastore :: zo 83 1 (.aload 0) :: zz 84 3 (.getfield 0) 8 23 :: zk 87 1 (.iconst 0) (nI 3) :: zo 88 1 (.aload 0) :: zz 89 3 (.getfield 0) 8 22 :: zo 92 1 .imul :: zk 93 1 (.iconst 0) 1 :: zo 94 1 .iadd :: zo 95 1 (.aload 0) :: zz 96 3 (.invokevirtual 8) jM_number 1 :: zo 99 1 .iastore :: zo 100 1 (.iload 1) :: zk 101 2 (.iconst 0) (nI 119) :: zx 103 3 (.if_icmp .ne 0) 129 :: zo 106 1 (.aload 0) :: zk 107 2 (.iconst 0) (nI 61) :: zz 109 3 (.invokevirtual 8) jM_take 2 :: zo 112 1 (.aload 0) :: zz 113 3 (.getfield 0) 8 23 :: zk 116 1 (.iconst 0) (nI 3) :: zo 117 1 (.aload 0) :: zz 118 3 (.getfield 0) 8 22 :: zo 121 1 .imul :: zk 122 1 (.iconst 0) (nI 2) :: zo 123 1 .iadd :: zo 124 1 (.aload 0) :: zz 125 3 (.invokevirtual 8) jM_number 1 :: zo 128 1 .iastore :: kM_readCommand_129
def kM_readCommand_66 : zCd := zk 66 1 (.iconst 0) 1 :: kM_readCommand_67
def kM_readCommand_47 : zCd := zz 47 3 (.putfield 0) 8 21 :: zo 50 1 (.aload 0) :: zo 51 1 .dup :: zz 52 3 (.getfield 0) 8 20 :: zo 55 1 (.aload 0) :: zz 56 3 (.getfield 0) 8 21 :: zx 59 3 (.ifCond .eq 0) 66 :: zk 62 1 (.iconst 0) 0 :: zx 63 3 (.goto 0) 67 :: kM_readCommand_66
def kM_readCommand_46 : zCd := zk 46 1 (.iconst 0) 0 :: kM_readCommand_47
def kM_readCommand_0 : zCd := zo 0 1 (.aload 0) :: zz 1 3 (.invokevirtual 8) jM_here 1 :: zo 4 1 (.istore 1) :: zo 5 1 (.aload 0) :: zo 6 1 (.iload 1) :: zk 7 2 (.iconst 0) (nI 110) :: zx 9 3 (.if_icmp .eq 0) 46 :: zo 12 1 (.iload 1) :: zk 13 2 (.iconst 0) (nI 100) :: zx 15 3 (.if_icmp .eq 0) 46 :: zo 18 1 (.iload 1) :: zk 19 2 (.iconst 0) (nI 102) :: zx 21 3 (.if_icmp .eq 0) 46 :: zo 24 1 (.iload 1) :: zk 25 2 (.iconst 0) (nI 114) :: zx 27 3 (.if_icmp .eq 0) 46 :: zo 30 1 (.iload 1) :: zk 31 2 (.iconst 0) (nI 119) :: zx 33 3 (.if_icmp .eq 0) 46 :: zo 36 1 (.iload 1) :: zk 37 2 (.iconst 0) (nI 116) :: zx 39 3 (.if_icmp .eq 0) 46 :: zk 42 1 (.iconst 0) 1 :: zx 43 3 (.goto 0) 47 :: kM_readCommand_46
def mM_readCommand : zMe := (yX7_readCommand, cX7_readCommand, 2, none, 2, 43, kM_readCommand_0)
def kM_performs_108 : zCd := zo 108 1 (.aload 0) :: zo 109 1 (.iload 2) :: zz 110 3 (.invokevirtual 8) jM_ticks 2 :: zx 113 1 .ireturn 0 :: []
def kM_performs_92 : zCd := zo 92 1 (.aload 0) :: zo 93 1 (.iload 2) :: zo 94 1 (.aload 0) :: zz 95 3 (.getfield 0) 8 23 :: zk 98 1 (.iconst 0) (nI 3) :: zo 99 1 (.iload 1) :: zo 100 1 .imul :: zk 101 1 (.iconst 0) (nI 2) :: zo 102 1 .iadd :: zo 103 1 .iaload :: zz 104 3 (.invokevirtual 8) jM_weighs 3 :: zx 107 1 .ireturn 0 :: kM_performs_108
def kM_performs_86 : zCd := zo 86 1 (.aload 0) :: zo 87 1 (.iload 2) :: zz 88 3 (.invokevirtual 8) jM_recovers 2 :: zx 91 1 .ireturn 0 :: kM_performs_92
def kM_performs_80 : zCd := zo 80 1 (.aload 0) :: zo 81 1 (.iload 2) :: zz 82 3 (.invokevirtual 8) jM_fails 2 :: zx 85 1 .ireturn 0 :: kM_performs_86
def kM_performs_74 : zCd := zo 74 1 (.aload 0) :: zo 75 1 (.iload 2) :: zz 76 3 (.invokevirtual 8) jM_drains 2 :: zx 79 1 .ireturn 0 :: kM_performs_80
def kM_performs_68 : zCd := zo 68 1 (.aload 0) :: zo 69 1 (.iload 2) :: zz 70 3 (.invokevirtual 8) jM_adds 2 :: zx 73 1 .ireturn 0 :: kM_performs_74
def kM_performs_0 : zCd := zo 0 1 (.aload 0) :: zz 1 3 (.getfield 0) 8 23 :: zk 4 1 (.iconst 0) (nI 3) :: zo 5 1 (.iload 1) :: zo 6 1 .imul :: zk 7 1 (.iconst 0) 1 :: zo 8 1 .iadd :: zo 9 1 .iaload :: zo 10 1 (.istore 2) :: zo 11 1 (.aload 0) :: zz 12 3 (.getfield 0) 8 23 :: zk 15 1 (.iconst 0) (nI 3) :: zo 16 1 (.iload 1) :: zo 17 1 .imul :: zo 18 1 .iaload :: zs 19 49 (.lookupswitch 0 #[]) 108 [((nI 100), 74), ((nI 102), 80), ((nI 110), 68), ((nI 114), 86), ((nI 119), 92)] :: kM_performs_68
def mM_performs : zMe := (yX7_performs, cX7_performs, 3, (Option.some Jvm.ClassFile.FieldType.int), 6, 136, kM_performs_0)
def kM_perform_115 : zCd := zo 115 1 (.aload 0) :: zo 116 1 (.aload 0) :: zz 117 3 (.getfield 0) 8 2 :: zz 120 3 (.invokevirtual 8) jM_keepAs 2 :: zo 123 1 (.aload 0) :: zz 124 3 (.getfield 0) 8 22 :: zx 127 1 .ireturn 0 :: []
def kM_perform_101 : zCd := zo 101 1 (.iload 1) :: zx 102 3 (.ifCond .le 0) 115 :: zo 105 1 (.aload 0) :: zz 106 3 (.invokevirtual 8) jM_takeBack 1 :: zo 109 1 (.aload 0) :: zk 110 1 (.iconst 0) 1 :: zz 111 3 (.invokevirtual 8) jM_refuse 2 :: zx 114 1 .ireturn 0 :: kM_perform_115
def kM_perform_77 : zCd := zo 77 1 (.iload 2) :: zo 78 1 (.aload 0) :: zz 79 3 (.getfield 0) 8 22 :: zx 82 3 (.if_icmp .ge 0) 101 :: zo 85 1 (.iload 1) :: zx 86 3 (.ifCond .ne 0) 101 :: zo 89 1 (.aload 0) :: zo 90 1 (.iload 2) :: zz 91 3 (.invokevirtual 8) jM_performs 2 :: zo 94 1 (.istore 1) :: zk 95 3 (.iinc 2 0) 1 :: zx 98 3 (.goto 0) 77 :: kM_perform_101
def kM_perform_69 : zCd := zo 69 1 (.aload 0) :: zz 70 3 (.invokevirtual 8) jM_putAside 1 :: zk 73 1 (.iconst 0) 0 :: zo 74 1 (.istore 1) :: zk 75 1 (.iconst 0) 0 :: zo 76 1 (.istore 2) :: kM_perform_77
def kM_perform_49 : zCd := zo 49 1 (.aload 0) :: zk 50 1 (.iconst 0) 0 :: zz 51 3 (.putfield 0) 8 18 :: zo 54 1 (.aload 0) :: zz 55 3 (.getfield 0) 8 21 :: zx 58 3 (.ifCond .eq 0) 69 :: zk 61 2 (.iconst 0) (-100) :: zo 63 1 (.aload 0) :: zz 64 3 (.getfield 0) 8 20 :: zo 67 1 .isub :: zx 68 1 .ireturn 0 :: kM_perform_69
def kM_perform_24 : zCd := zo 24 1 (.aload 0) :: zz 25 3 (.getfield 0) 8 21 :: zx 28 3 (.ifCond .ne 0) 49 :: zo 31 1 (.aload 0) :: zz 32 3 (.getfield 0) 8 20 :: zo 35 1 (.aload 0) :: zz 36 3 (.getfield 0) 8 18 :: zx 39 3 (.if_icmp .ge 0) 49 :: zo 42 1 (.aload 0) :: zz 43 3 (.invokevirtual 8) jM_readCommand 1 :: zx 46 3 (.goto 0) 24 :: kM_perform_49
def kM_perform_0 : zCd := zo 0 1 (.aload 0) :: zk 1 1 (.iconst 0) 0 :: zz 2 3 (.putfield 0) 8 6 :: zo 5 1 (.aload 0) :: zk 6 1 (.iconst 0) 0 :: zz 7 3 (.putfield 0) 8 20 :: zo 10 1 (.aload 0) :: zk 11 1 (.iconst 0) 0 :: zz 12 3 (.putfield 0) 8 22 :: zo 15 1 (.aload 0) :: zk 16 1 (.iconst 0) 0 :: zz 17 3 (.putfield 0) 8 21 :: zo 20 1 (.aload 0) :: zz 21 3 (.invokevirtual 8) jM_readCommand 1 :: kM_perform_24
def mM_perform : zMe := (yX7_perform, cX7_perform, 3, (Option.some Jvm.ClassFile.FieldType.int), 7, 158, kM_perform_0)
def kM_undo_64 : zCd := zo 64 1 (.aload 0) :: zz 65 3 (.getfield 0) 8 5 :: zx 68 1 .ireturn 0 :: []
def kM_undo_30 : zCd := zo 30 1 (.iload 1) :: zk 31 3 (.iconst 0) (nI 340) :: zx 34 3 (.if_icmp .ge 0) 64 :: zo 37 1 (.aload 0) :: zz 38 3 (.getfield 0) 8 0 :: zo 41 1 (.iload 1) :: zo 42 1 (.aload 0) :: zz 43 3 (.getfield 0) 8 4 :: zk 46 3 (.iconst 0) (nI 340) :: zo 49 1 (.aload 0) :: zz 50 3 (.getfield 0) 8 5 :: zo 53 1 .imul :: zo 54 1 (.iload 1) :: zo 55 1 .iadd :: zo 56 1 .iaload :: zo 57 1 .iastore :: zk 58 3 (.iinc 1 0) 1 :: zx 61 3 (.goto 0) 30 :: kM_undo_64
def kM_undo_18 : zCd := zo 18 1 (.aload 0) :: zo 19 1 .dup :: zz 20 3 (.getfield 0) 8 5 :: zk 23 1 (.iconst 0) 1 :: zo 24 1 .isub :: zz 25 3 (.putfield 0) 8 5 :: zk 28 1 (.iconst 0) 0 :: zo 29 1 (.istore 1) :: kM_undo_30
def kM_undo_0 : zCd := zo 0 1 (.aload 0) :: zk 1 1 (.iconst 0) 0 :: zz 2 3 (.putfield 0) 8 6 :: zo 5 1 (.aload 0) :: zz 6 3 (.getfield 0) 8 5 :: zx 9 3 (.ifCond .ne 0) 18 :: zo 12 1 (.aload 0) :: zk 13 1 (.iconst 0) 1 :: zz 14 3 (.invokevirtual 8) jM_refuse 2 :: zx 17 1 .ireturn 0 :: kM_undo_18
def mM_undo : zMe := (yX7_undo, cX7_undo, 2, (Option.some Jvm.ClassFile.FieldType.int), 1, 21, kM_undo_0)
def kM_there_33 : zCd := zo 33 1 (.iload 1) :: zx 34 1 .ireturn 0 :: []
def kM_there_25 : zCd := zo 25 1 .iadd :: zo 26 1 (.istore 1) :: zk 27 3 (.iinc 2 0) 1 :: zx 30 3 (.goto 0) 4 :: kM_there_33
def kM_there_24 : zCd := zk 24 1 (.iconst 0) 1 :: kM_there_25
def kM_there_4 : zCd := zo 4 1 (.iload 2) :: zk 5 2 (.iconst 0) (nI 8) :: zx 7 3 (.if_icmp .ge 0) 33 :: zo 10 1 (.iload 1) :: zo 11 1 (.aload 0) :: zo 12 1 (.iload 2) :: zk 13 1 (.iconst 0) 0 :: zz 14 3 (.invokevirtual 8) jM_is 3 :: zx 17 3 (.ifCond .eq 0) 24 :: zk 20 1 (.iconst 0) 0 :: zx 21 3 (.goto 0) 25 :: kM_there_24
def kM_there_0 : zCd := zk 0 1 (.iconst 0) 0 :: zo 1 1 (.istore 1) :: zk 2 1 (.iconst 0) 0 :: zo 3 1 (.istore 2) :: kM_there_4
def mM_there : zMe := (yX7_there, cX7_there, 3, (Option.some Jvm.ClassFile.FieldType.int), 1, 22, kM_there_0)
def kM_save_32 : zCd := zo 32 1 (.aload 0) :: zk 33 1 (.iconst 0) 1 :: zz 34 3 (.putfield 0) 8 3 :: zo 37 1 (.aload 0) :: zz 38 3 (.invokevirtual 8) jM_there 1 :: zx 41 1 .ireturn 0 :: []
def kM_save_7 : zCd := zo 7 1 (.iload 1) :: zk 8 3 (.iconst 0) (nI 340) :: zx 11 3 (.if_icmp .ge 0) 32 :: zo 14 1 (.aload 0) :: zz 15 3 (.getfield 0) 8 1 :: zo 18 1 (.iload 1) :: zo 19 1 (.aload 0) :: zz 20 3 (.getfield 0) 8 0 :: zo 23 1 (.iload 1) :: zo 24 1 .iaload :: zo 25 1 .iastore :: zk 26 3 (.iinc 1 0) 1 :: zx 29 3 (.goto 0) 7 :: kM_save_32
def kM_save_0 : zCd := zo 0 1 (.aload 0) :: zk 1 1 (.iconst 0) 0 :: zz 2 3 (.putfield 0) 8 6 :: zk 5 1 (.iconst 0) 0 :: zo 6 1 (.istore 1) :: kM_save_7
def mM_save : zMe := (yX7_save, cX7_save, 2, (Option.some Jvm.ClassFile.FieldType.int), 2, 44, kM_save_0)
def kM_restore_45 : zCd := zo 45 1 (.aload 0) :: zk 46 1 (.iconst 0) 0 :: zz 47 3 (.putfield 0) 8 5 :: zo 50 1 (.aload 0) :: zz 51 3 (.invokevirtual 8) jM_there 1 :: zx 54 1 .ireturn 0 :: []
def kM_restore_20 : zCd := zo 20 1 (.iload 1) :: zk 21 3 (.iconst 0) (nI 340) :: zx 24 3 (.if_icmp .ge 0) 45 :: zo 27 1 (.aload 0) :: zz 28 3 (.getfield 0) 8 0 :: zo 31 1 (.iload 1) :: zo 32 1 (.aload 0) :: zz 33 3 (.getfield 0) 8 1 :: zo 36 1 (.iload 1) :: zo 37 1 .iaload :: zo 38 1 .iastore :: zk 39 3 (.iinc 1 0) 1 :: zx 42 3 (.goto 0) 20 :: kM_restore_45
def kM_restore_18 : zCd := zk 18 1 (.iconst 0) 0 :: zo 19 1 (.istore 1) :: kM_restore_20
def kM_restore_0 : zCd := zo 0 1 (.aload 0) :: zk 1 1 (.iconst 0) 0 :: zz 2 3 (.putfield 0) 8 6 :: zo 5 1 (.aload 0) :: zz 6 3 (.getfield 0) 8 3 :: zx 9 3 (.ifCond .ne 0) 18 :: zo 12 1 (.aload 0) :: zk 13 1 (.iconst 0) 1 :: zz 14 3 (.invokevirtual 8) jM_refuse 2 :: zx 17 1 .ireturn 0 :: kM_restore_18
def mM_restore : zMe := (yX7_restore, cX7_restore, 2, (Option.some Jvm.ClassFile.FieldType.int), 2, 44, kM_restore_0)
def zMl : List zMe := [(yX6_isNode, cX6_isNode, 0, none, 0, 0, []), mR_init, mJ_fill, mT_init, mH_init, mH_at, mR_copyFrom, mT_copyFrom, mH_keep, mH_takeBack, mH_clear, mP_init, mC_nodeOfPoint, mC_isNode, mT_stateOf, mC_numberOfPoint, mT_weightOf, mP_layRing, mC_capacityFor, mP_setCapacities, mC_placeOf, mC_placeOfShard, mP_pointCode, mC_placeOfPoint, mP_pointAfter, mP_setTarget, mP_derive, mP_capacityOf, mP_loadOf, mC_isShard, mP_targetOf, mP_skippedFor, mT_ownerOf, mP_misplacedShards, mP_differingTargets, mP_wantedFits, mP_leastSlackWithoutSkips, mR_has, mR_part, mR_putPart, mR_append, mR_remove, mR_firstWith, mR_countWith, mR_removeWith, mS_init, mS_isFull, mS_append, mS_empty, mS_current, mS_isCommandLetter, mS_readDigit, mS_readNumber, mS_accept, mS_addCommand, mS_readCommand, mS_parse, mT_time, mT_isPresent, mT_canDrain, mT_canFail, mT_canRecover, mT_lowestAbsent, mT_nodesInState, mJ_bitCount, mT_presentNodes, mT_putState, mT_putWeight, mT_enter, mC_isWeight, mT_tryToEnter, mT_leave, mT_leaseOf, mT_isServed, mT_ownedShards, mC_sizeOfShard, mT_ownedSizes, mT_unservedShards, mT_grant, mT_release, mT_note, mK_attendToLeases, mK_mustCancel, mK_cancelMove, mK_endMove, mK_advanceMoves, mK_isCandidate, mK_rankOf, mK_bestCandidate, mK_beginMoves, mK_dismissEmptyNodes, mK_makeTicks, mK_ticksUntilNoneIsMisplaced, mC_codeOfPoint, mC_allPointsInOrder, mC_init, mC_beginChange, mC_addNode, mC_drain, mC_fail, mC_recover, mC_setWeight, mC_currentPlacement, mC_node, mC_nodes, mC_isAllowed, mC_set, mC_points, mC_point, mC_successor, mC_shard, mC_route, mC_pending, mC_changedIf, mC_leastSlack, mC_isTickCount, mC_tick, mC_moves, mC_isPart, mC_move, mC_forecast, mC_statistic, mC_events, mC_event, mC_forget, mC_feed, mC_obey, mC_perform, mC_undo, mC_save, mC_restore, mM_placeOf, mM_init, mM_thrown, mM_in, mM_refuse, mM_isNode, mM_isThere, mM_is, mM_keepAs, mM_putAside, mM_takeBack, mM_freeNode, mM_adds, mM_drains, mM_fails, mM_recovers, mM_weighs, mM_putPoint, mM_layRing, mM_successorOf, mM_layTargets, mM_isServed, mM_tells, mM_leases, mM_of, mM_isLost, mM_endMove, mM_goOn, mM_moveOf, mM_comingTo, mM_rank, mM_begin, mM_owned, mM_tickOnce, mM_ticks, mM_done, mM_addNode, mM_drain, mM_fail, mM_recover, mM_setWeight, mM_set, mM_pendingNow, mM_tick, mM_node, mM_nodes, mM_points, mM_point, mM_successor, mM_shard, mM_route, mM_pending, mM_changedIf, mM_isSkipping, mM_leastSlack, mM_moves, mM_move, mM_forecast, mM_statistic, mM_events, mM_event, mM_forget, mM_feed, mM_here, mM_number, mM_take, mM_readCommand, mM_performs, mM_perform, mM_undo, mM_there, mM_save, mM_restore]
def zMt (j : Nat) : zMe := zMl.getD j (yX6_isNode, cX6_isNode, 0, none, 0, 0, [])
theorem zMt_R_init : zMt jR_init = mR_init := rfl
theorem zMt_J_fill : zMt jJ_fill = mJ_fill := rfl
theorem zMt_T_init : zMt jT_init = mT_init := rfl
theorem zMt_H_init : zMt jH_init = mH_init := rfl
theorem zMt_H_at : zMt jH_at = mH_at := rfl
theorem zMt_R_copyFrom : zMt jR_copyFrom = mR_copyFrom := rfl
theorem zMt_T_copyFrom : zMt jT_copyFrom = mT_copyFrom := rfl
theorem zMt_H_keep : zMt jH_keep = mH_keep := rfl
theorem zMt_H_takeBack : zMt jH_takeBack = mH_takeBack := rfl
theorem zMt_H_clear : zMt jH_clear = mH_clear := rfl
theorem zMt_P_init : zMt jP_init = mP_init := rfl
theorem zMt_C_nodeOfPoint : zMt jC_nodeOfPoint = mC_nodeOfPoint := rfl
theorem zMt_C_isNode : zMt jC_isNode = mC_isNode := rfl
theorem zMt_T_stateOf : zMt jT_stateOf = mT_stateOf := rfl
theorem zMt_C_numberOfPoint : zMt jC_numberOfPoint = mC_numberOfPoint := rfl
theorem zMt_T_weightOf : zMt jT_weightOf = mT_weightOf := rfl
theorem zMt_P_layRing : zMt jP_layRing = mP_layRing := rfl
theorem zMt_C_capacityFor : zMt jC_capacityFor = mC_capacityFor := rfl
theorem zMt_P_setCapacities : zMt jP_setCapacities = mP_setCapacities := rfl
theorem zMt_C_placeOf : zMt jC_placeOf = mC_placeOf := rfl
theorem zMt_C_placeOfShard : zMt jC_placeOfShard = mC_placeOfShard := rfl
theorem zMt_P_pointCode : zMt jP_pointCode = mP_pointCode := rfl
theorem zMt_C_placeOfPoint : zMt jC_placeOfPoint = mC_placeOfPoint := rfl
theorem zMt_P_pointAfter : zMt jP_pointAfter = mP_pointAfter := rfl
theorem zMt_P_setTarget : zMt jP_setTarget = mP_setTarget := rfl
theorem zMt_P_derive : zMt jP_derive = mP_derive := rfl
theorem zMt_P_capacityOf : zMt jP_capacityOf = mP_capacityOf := rfl
theorem zMt_P_loadOf : zMt jP_loadOf = mP_loadOf := rfl
theorem zMt_C_isShard : zMt jC_isShard = mC_isShard := rfl
theorem zMt_P_targetOf : zMt jP_targetOf = mP_targetOf := rfl
theorem zMt_P_skippedFor : zMt jP_skippedFor = mP_skippedFor := rfl
theorem zMt_T_ownerOf : zMt jT_ownerOf = mT_ownerOf := rfl
theorem zMt_P_misplacedShards : zMt jP_misplacedShards = mP_misplacedShards := rfl
theorem zMt_P_differingTargets : zMt jP_differingTargets = mP_differingTargets := rfl
theorem zMt_P_wantedFits : zMt jP_wantedFits = mP_wantedFits := rfl
theorem zMt_P_leastSlackWithoutSkips : zMt jP_leastSlackWithoutSkips = mP_leastSlackWithoutSkips := rfl
theorem zMt_R_has : zMt jR_has = mR_has := rfl
theorem zMt_R_part : zMt jR_part = mR_part := rfl
theorem zMt_R_putPart : zMt jR_putPart = mR_putPart := rfl
theorem zMt_R_append : zMt jR_append = mR_append := rfl
theorem zMt_R_remove : zMt jR_remove = mR_remove := rfl
theorem zMt_R_firstWith : zMt jR_firstWith = mR_firstWith := rfl
theorem zMt_R_countWith : zMt jR_countWith = mR_countWith := rfl
theorem zMt_R_removeWith : zMt jR_removeWith = mR_removeWith := rfl
theorem zMt_S_init : zMt jS_init = mS_init := rfl
theorem zMt_S_isFull : zMt jS_isFull = mS_isFull := rfl
theorem zMt_S_append : zMt jS_append = mS_append := rfl
theorem zMt_S_empty : zMt jS_empty = mS_empty := rfl
theorem zMt_S_current : zMt jS_current = mS_current := rfl
theorem zMt_S_isCommandLetter : zMt jS_isCommandLetter = mS_isCommandLetter := rfl
theorem zMt_S_readDigit : zMt jS_readDigit = mS_readDigit := rfl
theorem zMt_S_readNumber : zMt jS_readNumber = mS_readNumber := rfl
theorem zMt_S_accept : zMt jS_accept = mS_accept := rfl
theorem zMt_S_addCommand : zMt jS_addCommand = mS_addCommand := rfl
theorem zMt_S_readCommand : zMt jS_readCommand = mS_readCommand := rfl
theorem zMt_S_parse : zMt jS_parse = mS_parse := rfl
theorem zMt_T_time : zMt jT_time = mT_time := rfl
theorem zMt_T_isPresent : zMt jT_isPresent = mT_isPresent := rfl
theorem zMt_T_canDrain : zMt jT_canDrain = mT_canDrain := rfl
theorem zMt_T_canFail : zMt jT_canFail = mT_canFail := rfl
theorem zMt_T_canRecover : zMt jT_canRecover = mT_canRecover := rfl
theorem zMt_T_lowestAbsent : zMt jT_lowestAbsent = mT_lowestAbsent := rfl
theorem zMt_T_nodesInState : zMt jT_nodesInState = mT_nodesInState := rfl
theorem zMt_J_bitCount : zMt jJ_bitCount = mJ_bitCount := rfl
theorem zMt_T_presentNodes : zMt jT_presentNodes = mT_presentNodes := rfl
theorem zMt_T_putState : zMt jT_putState = mT_putState := rfl
theorem zMt_T_putWeight : zMt jT_putWeight = mT_putWeight := rfl
theorem zMt_T_enter : zMt jT_enter = mT_enter := rfl
theorem zMt_C_isWeight : zMt jC_isWeight = mC_isWeight := rfl
theorem zMt_T_tryToEnter : zMt jT_tryToEnter = mT_tryToEnter := rfl
theorem zMt_T_leave : zMt jT_leave = mT_leave := rfl
theorem zMt_T_leaseOf : zMt jT_leaseOf = mT_leaseOf := rfl
theorem zMt_T_isServed : zMt jT_isServed = mT_isServed := rfl
theorem zMt_T_ownedShards : zMt jT_ownedShards = mT_ownedShards := rfl
theorem zMt_C_sizeOfShard : zMt jC_sizeOfShard = mC_sizeOfShard := rfl
theorem zMt_T_ownedSizes : zMt jT_ownedSizes = mT_ownedSizes := rfl
theorem zMt_T_unservedShards : zMt jT_unservedShards = mT_unservedShards := rfl
theorem zMt_T_grant : zMt jT_grant = mT_grant := rfl
theorem zMt_T_release : zMt jT_release = mT_release := rfl
theorem zMt_T_note : zMt jT_note = mT_note := rfl
theorem zMt_K_attendToLeases : zMt jK_attendToLeases = mK_attendToLeases := rfl
theorem zMt_K_mustCancel : zMt jK_mustCancel = mK_mustCancel := rfl
theorem zMt_K_cancelMove : zMt jK_cancelMove = mK_cancelMove := rfl
theorem zMt_K_endMove : zMt jK_endMove = mK_endMove := rfl
theorem zMt_K_advanceMoves : zMt jK_advanceMoves = mK_advanceMoves := rfl
theorem zMt_K_isCandidate : zMt jK_isCandidate = mK_isCandidate := rfl
theorem zMt_K_rankOf : zMt jK_rankOf = mK_rankOf := rfl
theorem zMt_K_bestCandidate : zMt jK_bestCandidate = mK_bestCandidate := rfl
theorem zMt_K_beginMoves : zMt jK_beginMoves = mK_beginMoves := rfl
theorem zMt_K_dismissEmptyNodes : zMt jK_dismissEmptyNodes = mK_dismissEmptyNodes := rfl
theorem zMt_K_makeTicks : zMt jK_makeTicks = mK_makeTicks := rfl
theorem zMt_K_ticksUntilNoneIsMisplaced : zMt jK_ticksUntilNoneIsMisplaced = mK_ticksUntilNoneIsMisplaced := rfl
theorem zMt_C_codeOfPoint : zMt jC_codeOfPoint = mC_codeOfPoint := rfl
theorem zMt_C_allPointsInOrder : zMt jC_allPointsInOrder = mC_allPointsInOrder := rfl
theorem zMt_C_init : zMt jC_init = mC_init := rfl
theorem zMt_C_beginChange : zMt jC_beginChange = mC_beginChange := rfl
theorem zMt_C_addNode : zMt jC_addNode = mC_addNode := rfl
theorem zMt_C_drain : zMt jC_drain = mC_drain := rfl
theorem zMt_C_fail : zMt jC_fail = mC_fail := rfl
theorem zMt_C_recover : zMt jC_recover = mC_recover := rfl
theorem zMt_C_setWeight : zMt jC_setWeight = mC_setWeight := rfl
theorem zMt_C_currentPlacement : zMt jC_currentPlacement = mC_currentPlacement := rfl
theorem zMt_C_node : zMt jC_node = mC_node := rfl
theorem zMt_C_nodes : zMt jC_nodes = mC_nodes := rfl
theorem zMt_C_isAllowed : zMt jC_isAllowed = mC_isAllowed := rfl
theorem zMt_C_set : zMt jC_set = mC_set := rfl
theorem zMt_C_points : zMt jC_points = mC_points := rfl
theorem zMt_C_point : zMt jC_point = mC_point := rfl
theorem zMt_C_successor : zMt jC_successor = mC_successor := rfl
theorem zMt_C_shard : zMt jC_shard = mC_shard := rfl
theorem zMt_C_route : zMt jC_route = mC_route := rfl
theorem zMt_C_pending : zMt jC_pending = mC_pending := rfl
theorem zMt_C_changedIf : zMt jC_changedIf = mC_changedIf := rfl
theorem zMt_C_leastSlack : zMt jC_leastSlack = mC_leastSlack := rfl
theorem zMt_C_isTickCount : zMt jC_isTickCount = mC_isTickCount := rfl
theorem zMt_C_tick : zMt jC_tick = mC_tick := rfl
theorem zMt_C_moves : zMt jC_moves = mC_moves := rfl
theorem zMt_C_isPart : zMt jC_isPart = mC_isPart := rfl
theorem zMt_C_move : zMt jC_move = mC_move := rfl
theorem zMt_C_forecast : zMt jC_forecast = mC_forecast := rfl
theorem zMt_C_statistic : zMt jC_statistic = mC_statistic := rfl
theorem zMt_C_events : zMt jC_events = mC_events := rfl
theorem zMt_C_event : zMt jC_event = mC_event := rfl
theorem zMt_C_forget : zMt jC_forget = mC_forget := rfl
theorem zMt_C_feed : zMt jC_feed = mC_feed := rfl
theorem zMt_C_obey : zMt jC_obey = mC_obey := rfl
theorem zMt_C_perform : zMt jC_perform = mC_perform := rfl
theorem zMt_C_undo : zMt jC_undo = mC_undo := rfl
theorem zMt_C_save : zMt jC_save = mC_save := rfl
theorem zMt_C_restore : zMt jC_restore = mC_restore := rfl
theorem zMt_M_placeOf : zMt jM_placeOf = mM_placeOf := rfl
theorem zMt_M_init : zMt jM_init = mM_init := rfl
theorem zMt_M_thrown : zMt jM_thrown = mM_thrown := rfl
theorem zMt_M_in : zMt jM_in = mM_in := rfl
theorem zMt_M_refuse : zMt jM_refuse = mM_refuse := rfl
theorem zMt_M_isNode : zMt jM_isNode = mM_isNode := rfl
theorem zMt_M_isThere : zMt jM_isThere = mM_isThere := rfl
theorem zMt_M_is : zMt jM_is = mM_is := rfl
theorem zMt_M_keepAs : zMt jM_keepAs = mM_keepAs := rfl
theorem zMt_M_putAside : zMt jM_putAside = mM_putAside := rfl
theorem zMt_M_takeBack : zMt jM_takeBack = mM_takeBack := rfl
theorem zMt_M_freeNode : zMt jM_freeNode = mM_freeNode := rfl
theorem zMt_M_adds : zMt jM_adds = mM_adds := rfl
theorem zMt_M_drains : zMt jM_drains = mM_drains := rfl
theorem zMt_M_fails : zMt jM_fails = mM_fails := rfl
theorem zMt_M_recovers : zMt jM_recovers = mM_recovers := rfl
theorem zMt_M_weighs : zMt jM_weighs = mM_weighs := rfl
theorem zMt_M_putPoint : zMt jM_putPoint = mM_putPoint := rfl
theorem zMt_M_layRing : zMt jM_layRing = mM_layRing := rfl
theorem zMt_M_successorOf : zMt jM_successorOf = mM_successorOf := rfl
theorem zMt_M_layTargets : zMt jM_layTargets = mM_layTargets := rfl
theorem zMt_M_isServed : zMt jM_isServed = mM_isServed := rfl
theorem zMt_M_tells : zMt jM_tells = mM_tells := rfl
theorem zMt_M_leases : zMt jM_leases = mM_leases := rfl
theorem zMt_M_of : zMt jM_of = mM_of := rfl
theorem zMt_M_isLost : zMt jM_isLost = mM_isLost := rfl
theorem zMt_M_endMove : zMt jM_endMove = mM_endMove := rfl
theorem zMt_M_goOn : zMt jM_goOn = mM_goOn := rfl
theorem zMt_M_moveOf : zMt jM_moveOf = mM_moveOf := rfl
theorem zMt_M_comingTo : zMt jM_comingTo = mM_comingTo := rfl
theorem zMt_M_rank : zMt jM_rank = mM_rank := rfl
theorem zMt_M_begin : zMt jM_begin = mM_begin := rfl
theorem zMt_M_owned : zMt jM_owned = mM_owned := rfl
theorem zMt_M_tickOnce : zMt jM_tickOnce = mM_tickOnce := rfl
theorem zMt_M_ticks : zMt jM_ticks = mM_ticks := rfl
theorem zMt_M_done : zMt jM_done = mM_done := rfl
theorem zMt_M_addNode : zMt jM_addNode = mM_addNode := rfl
theorem zMt_M_drain : zMt jM_drain = mM_drain := rfl
theorem zMt_M_fail : zMt jM_fail = mM_fail := rfl
theorem zMt_M_recover : zMt jM_recover = mM_recover := rfl
theorem zMt_M_setWeight : zMt jM_setWeight = mM_setWeight := rfl
theorem zMt_M_set : zMt jM_set = mM_set := rfl
theorem zMt_M_pendingNow : zMt jM_pendingNow = mM_pendingNow := rfl
theorem zMt_M_tick : zMt jM_tick = mM_tick := rfl
theorem zMt_M_node : zMt jM_node = mM_node := rfl
theorem zMt_M_nodes : zMt jM_nodes = mM_nodes := rfl
theorem zMt_M_points : zMt jM_points = mM_points := rfl
theorem zMt_M_point : zMt jM_point = mM_point := rfl
theorem zMt_M_successor : zMt jM_successor = mM_successor := rfl
theorem zMt_M_shard : zMt jM_shard = mM_shard := rfl
theorem zMt_M_route : zMt jM_route = mM_route := rfl
theorem zMt_M_pending : zMt jM_pending = mM_pending := rfl
theorem zMt_M_changedIf : zMt jM_changedIf = mM_changedIf := rfl
theorem zMt_M_isSkipping : zMt jM_isSkipping = mM_isSkipping := rfl
theorem zMt_M_leastSlack : zMt jM_leastSlack = mM_leastSlack := rfl
theorem zMt_M_moves : zMt jM_moves = mM_moves := rfl
theorem zMt_M_move : zMt jM_move = mM_move := rfl
theorem zMt_M_forecast : zMt jM_forecast = mM_forecast := rfl
theorem zMt_M_statistic : zMt jM_statistic = mM_statistic := rfl
theorem zMt_M_events : zMt jM_events = mM_events := rfl
theorem zMt_M_event : zMt jM_event = mM_event := rfl
theorem zMt_M_forget : zMt jM_forget = mM_forget := rfl
theorem zMt_M_feed : zMt jM_feed = mM_feed := rfl
theorem zMt_M_here : zMt jM_here = mM_here := rfl
theorem zMt_M_number : zMt jM_number = mM_number := rfl
theorem zMt_M_take : zMt jM_take = mM_take := rfl
theorem zMt_M_readCommand : zMt jM_readCommand = mM_readCommand := rfl
theorem zMt_M_performs : zMt jM_performs = mM_performs := rfl
theorem zMt_M_perform : zMt jM_perform = mM_perform := rfl
theorem zMt_M_undo : zMt jM_undo = mM_undo := rfl
theorem zMt_M_there : zMt jM_there = mM_there := rfl
theorem zMt_M_save : zMt jM_save = mM_save := rfl
theorem zMt_M_restore : zMt jM_restore = mM_restore := rfl
