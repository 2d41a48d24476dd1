theorem pq_ph31 : True := trivial
